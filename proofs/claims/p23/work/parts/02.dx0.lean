set_option maxRecDepth 20000 in
theorem ggX0_init_J7_fill_53178 : GoodIn wsX0_init wsJ7_fill_53178 := goodIn_r _ [20] (by decide +kernel) (by decide +kernel)
set_option maxRecDepth 20000 in
theorem gX0_init_J7_fill_53178 : GoodIn wsX0_init (va_wsS RX0 46 yJ7_fill_53178 wsJ7_fill_53178) := goodIn_app (goodIn_of _ (by decide +kernel)) ggX0_init_J7_fill_53178
set_option maxRecDepth 20000 in
theorem ggX0_init_X0_growTree : GoodIn wsX0_init wsX0_growTree := goodIn_r _ [25, 12, 26, 27, 28, 24, 29, 10, 15, 30, 31, 32, 17, 18, 19, 20, 33, 34, 35, 36, 37, 38, 39, 40, 7, 41, 42, 43, 44, 45, 46, 47, 11, 8, 48, 49, 50, 51, 52, 53, 54, 55, 56, 57, 58, 59, 60, 61, 62, 63, 64, 65, 66] (by decide +kernel) (by decide +kernel)
set_option maxRecDepth 20000 in
theorem gX0_init_X0_growTree : GoodIn wsX0_init (wsV RX0 52 RX0 yX0_growTree wsX0_growTree) := goodIn_app (goodIn_of _ (by decide +kernel)) ggX0_init_X0_growTree
theorem dX0_init_0 : decode cX0_init 0 = .ok (.aload_n 0, 1) := by decide +kernel
theorem dX0_init_1 : decode cX0_init 1 = .ok (.invokespecial 3, 3) := by decide +kernel
theorem dX0_init_4 : decode cX0_init 4 = .ok (.aload_n 0, 1) := by decide +kernel
theorem dX0_init_5 : decode cX0_init 5 = .ok (.bipush 36, 2) := by decide +kernel
theorem dX0_init_7 : decode cX0_init 7 = .ok (.newarray .int, 2) := by decide +kernel
theorem dX0_init_9 : decode cX0_init 9 = .ok (.putfield 9, 3) := by decide +kernel
theorem dX0_init_12 : decode cX0_init 12 = .ok (.aload_n 0, 1) := by decide +kernel
theorem dX0_init_13 : decode cX0_init 13 = .ok (.bipush 36, 2) := by decide +kernel
theorem dX0_init_15 : decode cX0_init 15 = .ok (.newarray .int, 2) := by decide +kernel
theorem dX0_init_17 : decode cX0_init 17 = .ok (.putfield 13, 3) := by decide +kernel
theorem dX0_init_20 : decode cX0_init 20 = .ok (.aload_n 0, 1) := by decide +kernel
theorem dX0_init_21 : decode cX0_init 21 = .ok (.bipush 36, 2) := by decide +kernel
theorem dX0_init_23 : decode cX0_init 23 = .ok (.newarray .int, 2) := by decide +kernel
theorem dX0_init_25 : decode cX0_init 25 = .ok (.putfield 16, 3) := by decide +kernel
theorem dX0_init_28 : decode cX0_init 28 = .ok (.aload_n 0, 1) := by decide +kernel
theorem dX0_init_29 : decode cX0_init 29 = .ok (.bipush 36, 2) := by decide +kernel
theorem dX0_init_31 : decode cX0_init 31 = .ok (.newarray .int, 2) := by decide +kernel
theorem dX0_init_33 : decode cX0_init 33 = .ok (.putfield 19, 3) := by decide +kernel
theorem dX0_init_36 : decode cX0_init 36 = .ok (.aload_n 0, 1) := by decide +kernel
theorem dX0_init_37 : decode cX0_init 37 = .ok (.bipush 36, 2) := by decide +kernel
theorem dX0_init_39 : decode cX0_init 39 = .ok (.newarray .int, 2) := by decide +kernel
theorem dX0_init_41 : decode cX0_init 41 = .ok (.putfield 22, 3) := by decide +kernel
theorem dX0_init_44 : decode cX0_init 44 = .ok (.aload_n 0, 1) := by decide +kernel
theorem dX0_init_45 : decode cX0_init 45 = .ok (.bipush 6, 2) := by decide +kernel
theorem dX0_init_47 : decode cX0_init 47 = .ok (.newarray .int, 2) := by decide +kernel
theorem dX0_init_49 : decode cX0_init 49 = .ok (.putfield 25, 3) := by decide +kernel
theorem dX0_init_52 : decode cX0_init 52 = .ok (.aload_n 0, 1) := by decide +kernel
theorem dX0_init_53 : decode cX0_init 53 = .ok (.bipush 6, 2) := by decide +kernel
theorem dX0_init_55 : decode cX0_init 55 = .ok (.newarray .int, 2) := by decide +kernel
theorem dX0_init_57 : decode cX0_init 57 = .ok (.putfield 28, 3) := by decide +kernel
theorem dX0_init_60 : decode cX0_init 60 = .ok (.aload_n 0, 1) := by decide +kernel
theorem dX0_init_61 : decode cX0_init 61 = .ok (.bipush 6, 2) := by decide +kernel
theorem dX0_init_63 : decode cX0_init 63 = .ok (.newarray .int, 2) := by decide +kernel
theorem dX0_init_65 : decode cX0_init 65 = .ok (.putfield 31, 3) := by decide +kernel
theorem dX0_init_68 : decode cX0_init 68 = .ok (.aload_n 0, 1) := by decide +kernel
theorem dX0_init_69 : decode cX0_init 69 = .ok (.bipush 96, 2) := by decide +kernel
theorem dX0_init_71 : decode cX0_init 71 = .ok (.newarray .int, 2) := by decide +kernel
theorem dX0_init_73 : decode cX0_init 73 = .ok (.putfield 34, 3) := by decide +kernel
theorem dX0_init_76 : decode cX0_init 76 = .ok (.aload_n 0, 1) := by decide +kernel
theorem dX0_init_77 : decode cX0_init 77 = .ok (.bipush 96, 2) := by decide +kernel
theorem dX0_init_79 : decode cX0_init 79 = .ok (.newarray .int, 2) := by decide +kernel
theorem dX0_init_81 : decode cX0_init 81 = .ok (.putfield 37, 3) := by decide +kernel
theorem dX0_init_84 : decode cX0_init 84 = .ok (.aload_n 0, 1) := by decide +kernel
theorem dX0_init_85 : decode cX0_init 85 = .ok (.bipush 36, 2) := by decide +kernel
theorem dX0_init_87 : decode cX0_init 87 = .ok (.newarray .int, 2) := by decide +kernel
theorem dX0_init_89 : decode cX0_init 89 = .ok (.putfield 40, 3) := by decide +kernel
theorem dX0_init_92 : decode cX0_init 92 = .ok (.aload_n 0, 1) := by decide +kernel
theorem dX0_init_93 : decode cX0_init 93 = .ok (.bipush 6, 2) := by decide +kernel
theorem dX0_init_95 : decode cX0_init 95 = .ok (.newarray .int, 2) := by decide +kernel
theorem dX0_init_97 : decode cX0_init 97 = .ok (.putfield 43, 3) := by decide +kernel
theorem dX0_init_100 : decode cX0_init 100 = .ok (.aload_n 0, 1) := by decide +kernel
theorem dX0_init_101 : decode cX0_init 101 = .ok (.getfield 16, 3) := by decide +kernel
theorem dX0_init_104 : decode cX0_init 104 = .ok (.iconst (-1), 1) := by decide +kernel
theorem dX0_init_105 : decode cX0_init 105 = .ok (.invokestatic 46, 3) := by decide +kernel
theorem dX0_init_108 : decode cX0_init 108 = .ok (.aload_n 0, 1) := by decide +kernel
theorem dX0_init_109 : decode cX0_init 109 = .ok (.getfield 22, 3) := by decide +kernel
theorem dX0_init_112 : decode cX0_init 112 = .ok (.iconst (-1), 1) := by decide +kernel
theorem dX0_init_113 : decode cX0_init 113 = .ok (.invokestatic 46, 3) := by decide +kernel
theorem dX0_init_116 : decode cX0_init 116 = .ok (.aload_n 0, 1) := by decide +kernel
theorem dX0_init_117 : decode cX0_init 117 = .ok (.invokevirtual 52, 3) := by decide +kernel
theorem dX0_init_120 : decode cX0_init 120 = .ok (.return_, 1) := by decide +kernel
set_option maxRecDepth 20000 in
theorem ggX0_untag_X0_slotOf : GoodIn wsX0_untag wsX0_slotOf := goodIn_ca (goodIn_r _ [7, 8, 9, 10, 11, 6, 12] (by decide +kernel) (by decide +kernel)) (goodIn_sub (fun _ h => List.mem_cons_of_mem _ (List.mem_append_right _ h)) (by decide +kernel))
set_option maxRecDepth 20000 in
theorem gX0_untag_X0_slotOf : GoodIn wsX0_untag (va_wsS RX0 55 yX0_slotOf wsX0_slotOf) := goodIn_app (goodIn_of _ (by decide +kernel)) ggX0_untag_X0_slotOf
set_option maxRecDepth 20000 in
theorem ggX0_untag_X0_checkLane : GoodIn wsX0_untag wsX0_checkLane := goodIn_ca (goodIn_r _ [15, 8, 9] (by decide +kernel) (by decide +kernel)) (goodIn_sub (fun _ h => List.mem_cons_of_mem _ (List.mem_append_right _ h)) (by decide +kernel))
set_option maxRecDepth 20000 in
theorem gX0_untag_X0_checkLane : GoodIn wsX0_untag (va_wsS RX0 59 yX0_checkLane wsX0_checkLane) := goodIn_app (goodIn_of _ (by decide +kernel)) ggX0_untag_X0_checkLane
set_option maxRecDepth 20000 in
theorem ggX0_untag_X0_isTagged : GoodIn wsX0_untag wsX0_isTagged := goodIn_r _ [19, 20, 21, 22, 6, 23, 27, 28, 29, 30, 31, 32, 33, 34, 35, 36, 37, 38, 39, 40, 41] (by decide +kernel) (by decide +kernel)
set_option maxRecDepth 20000 in
theorem gX0_untag_X0_isTagged : GoodIn wsX0_untag (wsV RX0 63 RX0 yX0_isTagged wsX0_isTagged) := goodIn_app (goodIn_of _ (by decide +kernel)) ggX0_untag_X0_isTagged
set_option maxRecDepth 20000 in
theorem ggX0_untag_X0_at : GoodIn wsX0_untag wsX0_at := goodIn_r _ [23] (by decide +kernel) (by decide +kernel)
set_option maxRecDepth 20000 in
theorem gX0_untag_X0_at : GoodIn wsX0_untag (va_wsS RX0 74 yX0_at wsX0_at) := goodIn_app (goodIn_of _ (by decide +kernel)) ggX0_untag_X0_at
set_option maxRecDepth 20000 in
theorem ggX0_untag_X0_put : GoodIn wsX0_untag wsX0_put := goodIn_r _ [26] (by decide +kernel) (by decide +kernel)
set_option maxRecDepth 20000 in
theorem gX0_untag_X0_put : GoodIn wsX0_untag (va_wsS RX0 78 yX0_put wsX0_put) := goodIn_app (goodIn_of _ (by decide +kernel)) ggX0_untag_X0_put
theorem dX0_untag_0 : decode cX0_untag 0 = .ok (.iload_n 1, 1) := by decide +kernel
theorem dX0_untag_1 : decode cX0_untag 1 = .ok (.iload_n 2, 1) := by decide +kernel
theorem dX0_untag_2 : decode cX0_untag 2 = .ok (.invokestatic 55, 3) := by decide +kernel
theorem dX0_untag_5 : decode cX0_untag 5 = .ok (.istore 4, 2) := by decide +kernel
theorem dX0_untag_7 : decode cX0_untag 7 = .ok (.iload_n 3, 1) := by decide +kernel
theorem dX0_untag_8 : decode cX0_untag 8 = .ok (.ifCond .eq 7, 3) := by decide +kernel
theorem dX0_untag_11 : decode cX0_untag 11 = .ok (.iload_n 3, 1) := by decide +kernel
theorem dX0_untag_12 : decode cX0_untag 12 = .ok (.invokestatic 59, 3) := by decide +kernel
theorem dX0_untag_15 : decode cX0_untag 15 = .ok (.aload_n 0, 1) := by decide +kernel
theorem dX0_untag_16 : decode cX0_untag 16 = .ok (.iload 4, 2) := by decide +kernel
theorem dX0_untag_18 : decode cX0_untag 18 = .ok (.iload_n 3, 1) := by decide +kernel
theorem dX0_untag_19 : decode cX0_untag 19 = .ok (.invokevirtual 63, 3) := by decide +kernel
theorem dX0_untag_22 : decode cX0_untag 22 = .ok (.ifCond .eq 13, 3) := by decide +kernel
theorem dX0_untag_25 : decode cX0_untag 25 = .ok (.new 67, 3) := by decide +kernel
theorem dX0_untag_28 : decode cX0_untag 28 = .ok (.dup, 1) := by decide +kernel
theorem dX0_untag_29 : decode cX0_untag 29 = .ok (.ldc 69, 2) := by decide +kernel
theorem dX0_untag_31 : decode cX0_untag 31 = .ok (.invokespecial 71, 3) := by decide +kernel
theorem dX0_untag_34 : decode cX0_untag 34 = .ok (.athrow, 1) := by decide +kernel
theorem dX0_untag_35 : decode cX0_untag 35 = .ok (.aload_n 0, 1) := by decide +kernel
theorem dX0_untag_36 : decode cX0_untag 36 = .ok (.getfield 9, 3) := by decide +kernel
theorem dX0_untag_39 : decode cX0_untag 39 = .ok (.iload 4, 2) := by decide +kernel
theorem dX0_untag_41 : decode cX0_untag 41 = .ok (.invokestatic 74, 3) := by decide +kernel
theorem dX0_untag_44 : decode cX0_untag 44 = .ok (.istore 5, 2) := by decide +kernel
theorem dX0_untag_46 : decode cX0_untag 46 = .ok (.aload_n 0, 1) := by decide +kernel
theorem dX0_untag_47 : decode cX0_untag 47 = .ok (.getfield 9, 3) := by decide +kernel
theorem dX0_untag_50 : decode cX0_untag 50 = .ok (.iload 4, 2) := by decide +kernel
theorem dX0_untag_52 : decode cX0_untag 52 = .ok (.iload_n 3, 1) := by decide +kernel
theorem dX0_untag_53 : decode cX0_untag 53 = .ok (.invokestatic 78, 3) := by decide +kernel
theorem dX0_untag_56 : decode cX0_untag 56 = .ok (.iload 5, 2) := by decide +kernel
theorem dX0_untag_58 : decode cX0_untag 58 = .ok (.ireturn, 1) := by decide +kernel
set_option maxRecDepth 20000 in
theorem ggX0_tag_X0_slotOf : GoodIn wsX0_tag wsX0_slotOf := goodIn_ca (goodIn_r _ [8, 9, 10, 11, 12, 7, 13] (by decide +kernel) (by decide +kernel)) (goodIn_sub (fun _ h => List.mem_cons_of_mem _ (List.mem_append_right _ h)) (by decide +kernel))
set_option maxRecDepth 20000 in
theorem gX0_tag_X0_slotOf : GoodIn wsX0_tag (va_wsS RX0 55 yX0_slotOf wsX0_slotOf) := goodIn_app (goodIn_of _ (by decide +kernel)) ggX0_tag_X0_slotOf
set_option maxRecDepth 20000 in
theorem ggX0_tag_X0_checkLane : GoodIn wsX0_tag wsX0_checkLane := goodIn_ca (goodIn_r _ [16, 9, 10] (by decide +kernel) (by decide +kernel)) (goodIn_sub (fun _ h => List.mem_cons_of_mem _ (List.mem_append_right _ h)) (by decide +kernel))
set_option maxRecDepth 20000 in
theorem gX0_tag_X0_checkLane : GoodIn wsX0_tag (va_wsS RX0 59 yX0_checkLane wsX0_checkLane) := goodIn_app (goodIn_of _ (by decide +kernel)) ggX0_tag_X0_checkLane
set_option maxRecDepth 20000 in
theorem ggX0_tag_X0_at : GoodIn wsX0_tag wsX0_at := goodIn_r _ [19] (by decide +kernel) (by decide +kernel)
set_option maxRecDepth 20000 in
theorem gX0_tag_X0_at : GoodIn wsX0_tag (va_wsS RX0 74 yX0_at wsX0_at) := goodIn_app (goodIn_of _ (by decide +kernel)) ggX0_tag_X0_at
set_option maxRecDepth 20000 in
theorem ggX0_tag_X0_isTagged : GoodIn wsX0_tag wsX0_isTagged := goodIn_r _ [23, 4, 17, 18, 7, 19, 27, 28, 29, 30, 31, 32, 33, 34, 35, 36, 37, 38, 39, 40, 41] (by decide +kernel) (by decide +kernel)
set_option maxRecDepth 20000 in
theorem gX0_tag_X0_isTagged : GoodIn wsX0_tag (wsV RX0 63 RX0 yX0_isTagged wsX0_isTagged) := goodIn_app (goodIn_of _ (by decide +kernel)) ggX0_tag_X0_isTagged
set_option maxRecDepth 20000 in
theorem ggX0_tag_X0_put : GoodIn wsX0_tag wsX0_put := goodIn_r _ [26] (by decide +kernel) (by decide +kernel)
set_option maxRecDepth 20000 in
theorem gX0_tag_X0_put : GoodIn wsX0_tag (va_wsS RX0 78 yX0_put wsX0_put) := goodIn_app (goodIn_of _ (by decide +kernel)) ggX0_tag_X0_put
theorem dX0_tag_0 : decode cX0_tag 0 = .ok (.iload_n 1, 1) := by decide +kernel
theorem dX0_tag_1 : decode cX0_tag 1 = .ok (.iload_n 2, 1) := by decide +kernel
theorem dX0_tag_2 : decode cX0_tag 2 = .ok (.invokestatic 55, 3) := by decide +kernel
theorem dX0_tag_5 : decode cX0_tag 5 = .ok (.istore 5, 2) := by decide +kernel
theorem dX0_tag_7 : decode cX0_tag 7 = .ok (.iload_n 3, 1) := by decide +kernel
theorem dX0_tag_8 : decode cX0_tag 8 = .ok (.invokestatic 59, 3) := by decide +kernel
theorem dX0_tag_11 : decode cX0_tag 11 = .ok (.iload 4, 2) := by decide +kernel
theorem dX0_tag_13 : decode cX0_tag 13 = .ok (.ifCond .eq 26, 3) := by decide +kernel
theorem dX0_tag_16 : decode cX0_tag 16 = .ok (.aload_n 0, 1) := by decide +kernel
theorem dX0_tag_17 : decode cX0_tag 17 = .ok (.getfield 9, 3) := by decide +kernel
theorem dX0_tag_20 : decode cX0_tag 20 = .ok (.iload 5, 2) := by decide +kernel
theorem dX0_tag_22 : decode cX0_tag 22 = .ok (.invokestatic 74, 3) := by decide +kernel
theorem dX0_tag_25 : decode cX0_tag 25 = .ok (.iload_n 3, 1) := by decide +kernel
theorem dX0_tag_26 : decode cX0_tag 26 = .ok (.if_icmp .ne 13, 3) := by decide +kernel
theorem dX0_tag_29 : decode cX0_tag 29 = .ok (.new 67, 3) := by decide +kernel
theorem dX0_tag_32 : decode cX0_tag 32 = .ok (.dup, 1) := by decide +kernel
theorem dX0_tag_33 : decode cX0_tag 33 = .ok (.ldc 82, 2) := by decide +kernel
theorem dX0_tag_35 : decode cX0_tag 35 = .ok (.invokespecial 71, 3) := by decide +kernel
theorem dX0_tag_38 : decode cX0_tag 38 = .ok (.athrow, 1) := by decide +kernel
theorem dX0_tag_39 : decode cX0_tag 39 = .ok (.aload_n 0, 1) := by decide +kernel
theorem dX0_tag_40 : decode cX0_tag 40 = .ok (.iload 5, 2) := by decide +kernel
theorem dX0_tag_42 : decode cX0_tag 42 = .ok (.iload_n 3, 1) := by decide +kernel
theorem dX0_tag_43 : decode cX0_tag 43 = .ok (.invokevirtual 63, 3) := by decide +kernel
theorem dX0_tag_46 : decode cX0_tag 46 = .ok (.istore 6, 2) := by decide +kernel
theorem dX0_tag_48 : decode cX0_tag 48 = .ok (.aload_n 0, 1) := by decide +kernel
theorem dX0_tag_49 : decode cX0_tag 49 = .ok (.getfield 13, 3) := by decide +kernel
theorem dX0_tag_52 : decode cX0_tag 52 = .ok (.iload 5, 2) := by decide +kernel
theorem dX0_tag_54 : decode cX0_tag 54 = .ok (.invokestatic 74, 3) := by decide +kernel
theorem dX0_tag_57 : decode cX0_tag 57 = .ok (.iconst 1, 1) := by decide +kernel
theorem dX0_tag_58 : decode cX0_tag 58 = .ok (.iload_n 3, 1) := by decide +kernel
theorem dX0_tag_59 : decode cX0_tag 59 = .ok (.ishl, 1) := by decide +kernel
theorem dX0_tag_60 : decode cX0_tag 60 = .ok (.iconst (-1), 1) := by decide +kernel
theorem dX0_tag_61 : decode cX0_tag 61 = .ok (.ixor, 1) := by decide +kernel
theorem dX0_tag_62 : decode cX0_tag 62 = .ok (.iand, 1) := by decide +kernel
theorem dX0_tag_63 : decode cX0_tag 63 = .ok (.istore 7, 2) := by decide +kernel
theorem dX0_tag_65 : decode cX0_tag 65 = .ok (.aload_n 0, 1) := by decide +kernel
theorem dX0_tag_66 : decode cX0_tag 66 = .ok (.getfield 13, 3) := by decide +kernel
theorem dX0_tag_69 : decode cX0_tag 69 = .ok (.iload 5, 2) := by decide +kernel
theorem dX0_tag_71 : decode cX0_tag 71 = .ok (.iload 4, 2) := by decide +kernel
theorem dX0_tag_73 : decode cX0_tag 73 = .ok (.ifCond .eq 12, 3) := by decide +kernel
theorem dX0_tag_76 : decode cX0_tag 76 = .ok (.iload 7, 2) := by decide +kernel
theorem dX0_tag_78 : decode cX0_tag 78 = .ok (.iconst 1, 1) := by decide +kernel
theorem dX0_tag_79 : decode cX0_tag 79 = .ok (.iload_n 3, 1) := by decide +kernel
theorem dX0_tag_80 : decode cX0_tag 80 = .ok (.ishl, 1) := by decide +kernel
theorem dX0_tag_81 : decode cX0_tag 81 = .ok (.ior, 1) := by decide +kernel
theorem dX0_tag_82 : decode cX0_tag 82 = .ok (.goto 5, 3) := by decide +kernel
theorem dX0_tag_85 : decode cX0_tag 85 = .ok (.iload 7, 2) := by decide +kernel
theorem dX0_tag_87 : decode cX0_tag 87 = .ok (.invokestatic 78, 3) := by decide +kernel
theorem dX0_tag_90 : decode cX0_tag 90 = .ok (.iload 6, 2) := by decide +kernel
theorem dX0_tag_92 : decode cX0_tag 92 = .ok (.ireturn, 1) := by decide +kernel
set_option maxRecDepth 20000 in
theorem ggX0_cable_X0_slotOf : GoodIn wsX0_cable wsX0_slotOf := goodIn_ca (goodIn_r _ [9, 1, 2, 10, 11, 8, 12] (by decide +kernel) (by decide +kernel)) (goodIn_sub (fun _ h => List.mem_cons_of_mem _ (List.mem_append_left _ (List.mem_append_right _ h))) (by decide +kernel))
set_option maxRecDepth 20000 in
theorem gX0_cable_X0_slotOf : GoodIn wsX0_cable (va_wsS RX0 55 yX0_slotOf wsX0_slotOf) := goodIn_app (goodIn_of _ (by decide +kernel)) ggX0_cable_X0_slotOf
set_option maxRecDepth 20000 in
theorem ggX0_cable_X0_hasCable : GoodIn wsX0_cable wsX0_hasCable := goodIn_r _ [16, 17, 18, 19, 8, 20, 61, 62, 63, 64, 65, 66, 67, 68, 69, 70, 71, 72, 73, 74, 75] (by decide +kernel) (by decide +kernel)
set_option maxRecDepth 20000 in
theorem gX0_cable_X0_hasCable : GoodIn wsX0_cable (wsV RX0 91 RX0 yX0_hasCable wsX0_hasCable) := goodIn_app (goodIn_of _ (by decide +kernel)) ggX0_cable_X0_hasCable
set_option maxRecDepth 20000 in
theorem ggX0_cable_X0_setCable : GoodIn wsX0_cable wsX0_setCable := goodIn_r _ [24, 17, 25, 26, 27, 8, 28, 61, 62, 63, 64, 65, 66, 67, 68, 69, 70, 71, 72, 73, 74, 75] (by decide +kernel) (by decide +kernel)
set_option maxRecDepth 20000 in
theorem gX0_cable_X0_setCable : GoodIn wsX0_cable (wsV RX0 97 RX0 yX0_setCable wsX0_setCable) := goodIn_app (goodIn_of _ (by decide +kernel)) ggX0_cable_X0_setCable
set_option maxRecDepth 20000 in
theorem ggX0_cable_X0_growTree : GoodIn wsX0_cable wsX0_growTree := goodIn_r _ [32, 33, 34, 35, 36, 8, 37, 38, 39, 26, 27, 28, 40, 41, 42, 43, 44, 45, 46, 47, 48, 49, 50, 51, 17, 18, 19, 20, 52, 53, 54, 55, 56, 25, 57, 58, 59, 60, 61, 62, 63, 64, 65, 66, 67, 68, 69, 70, 71, 72, 73, 74, 75] (by decide +kernel) (by decide +kernel)
set_option maxRecDepth 20000 in
theorem gX0_cable_X0_growTree : GoodIn wsX0_cable (wsV RX0 52 RX0 yX0_growTree wsX0_growTree) := goodIn_app (goodIn_of _ (by decide +kernel)) ggX0_cable_X0_growTree
theorem dX0_cable_0 : decode cX0_cable 0 = .ok (.iload_n 1, 1) := by decide +kernel
theorem dX0_cable_1 : decode cX0_cable 1 = .ok (.iload_n 2, 1) := by decide +kernel
theorem dX0_cable_2 : decode cX0_cable 2 = .ok (.invokestatic 55, 3) := by decide +kernel
theorem dX0_cable_5 : decode cX0_cable 5 = .ok (.istore 6, 2) := by decide +kernel
theorem dX0_cable_7 : decode cX0_cable 7 = .ok (.iload_n 3, 1) := by decide +kernel
theorem dX0_cable_8 : decode cX0_cable 8 = .ok (.iload 4, 2) := by decide +kernel
theorem dX0_cable_10 : decode cX0_cable 10 = .ok (.invokestatic 55, 3) := by decide +kernel
theorem dX0_cable_13 : decode cX0_cable 13 = .ok (.istore 7, 2) := by decide +kernel
theorem dX0_cable_15 : decode cX0_cable 15 = .ok (.iload 5, 2) := by decide +kernel
theorem dX0_cable_17 : decode cX0_cable 17 = .ok (.iconst 1, 1) := by decide +kernel
theorem dX0_cable_18 : decode cX0_cable 18 = .ok (.if_icmp .lt 10, 3) := by decide +kernel
theorem dX0_cable_21 : decode cX0_cable 21 = .ok (.iload 5, 2) := by decide +kernel
theorem dX0_cable_23 : decode cX0_cable 23 = .ok (.bipush 20, 2) := by decide +kernel
theorem dX0_cable_25 : decode cX0_cable 25 = .ok (.if_icmp .le 13, 3) := by decide +kernel
theorem dX0_cable_28 : decode cX0_cable 28 = .ok (.new 84, 3) := by decide +kernel
theorem dX0_cable_31 : decode cX0_cable 31 = .ok (.dup, 1) := by decide +kernel
theorem dX0_cable_32 : decode cX0_cable 32 = .ok (.ldc 86, 2) := by decide +kernel
theorem dX0_cable_34 : decode cX0_cable 34 = .ok (.invokespecial 88, 3) := by decide +kernel
theorem dX0_cable_37 : decode cX0_cable 37 = .ok (.athrow, 1) := by decide +kernel
theorem dX0_cable_38 : decode cX0_cable 38 = .ok (.iload_n 1, 1) := by decide +kernel
theorem dX0_cable_39 : decode cX0_cable 39 = .ok (.iload_n 3, 1) := by decide +kernel
theorem dX0_cable_40 : decode cX0_cable 40 = .ok (.if_icmp .ne 13, 3) := by decide +kernel
theorem dX0_cable_43 : decode cX0_cable 43 = .ok (.new 84, 3) := by decide +kernel
theorem dX0_cable_46 : decode cX0_cable 46 = .ok (.dup, 1) := by decide +kernel
theorem dX0_cable_47 : decode cX0_cable 47 = .ok (.ldc 89, 2) := by decide +kernel
theorem dX0_cable_49 : decode cX0_cable 49 = .ok (.invokespecial 88, 3) := by decide +kernel
theorem dX0_cable_52 : decode cX0_cable 52 = .ok (.athrow, 1) := by decide +kernel
theorem dX0_cable_53 : decode cX0_cable 53 = .ok (.aload_n 0, 1) := by decide +kernel
theorem dX0_cable_54 : decode cX0_cable 54 = .ok (.iload 6, 2) := by decide +kernel
theorem dX0_cable_56 : decode cX0_cable 56 = .ok (.invokevirtual 91, 3) := by decide +kernel
theorem dX0_cable_59 : decode cX0_cable 59 = .ok (.ifCond .ne 12, 3) := by decide +kernel
theorem dX0_cable_62 : decode cX0_cable 62 = .ok (.aload_n 0, 1) := by decide +kernel
theorem dX0_cable_63 : decode cX0_cable 63 = .ok (.iload 7, 2) := by decide +kernel
theorem dX0_cable_65 : decode cX0_cable 65 = .ok (.invokevirtual 91, 3) := by decide +kernel
theorem dX0_cable_68 : decode cX0_cable 68 = .ok (.ifCond .eq 13, 3) := by decide +kernel
theorem dX0_cable_71 : decode cX0_cable 71 = .ok (.new 67, 3) := by decide +kernel
theorem dX0_cable_74 : decode cX0_cable 74 = .ok (.dup, 1) := by decide +kernel
theorem dX0_cable_75 : decode cX0_cable 75 = .ok (.ldc 95, 2) := by decide +kernel
theorem dX0_cable_77 : decode cX0_cable 77 = .ok (.invokespecial 71, 3) := by decide +kernel
theorem dX0_cable_80 : decode cX0_cable 80 = .ok (.athrow, 1) := by decide +kernel
theorem dX0_cable_81 : decode cX0_cable 81 = .ok (.aload_n 0, 1) := by decide +kernel
theorem dX0_cable_82 : decode cX0_cable 82 = .ok (.iload 6, 2) := by decide +kernel
theorem dX0_cable_84 : decode cX0_cable 84 = .ok (.iload 7, 2) := by decide +kernel
theorem dX0_cable_86 : decode cX0_cable 86 = .ok (.iload 5, 2) := by decide +kernel
theorem dX0_cable_88 : decode cX0_cable 88 = .ok (.invokevirtual 97, 3) := by decide +kernel
theorem dX0_cable_91 : decode cX0_cable 91 = .ok (.aload_n 0, 1) := by decide +kernel
theorem dX0_cable_92 : decode cX0_cable 92 = .ok (.iload 7, 2) := by decide +kernel
theorem dX0_cable_94 : decode cX0_cable 94 = .ok (.iload 6, 2) := by decide +kernel
theorem dX0_cable_96 : decode cX0_cable 96 = .ok (.iload 5, 2) := by decide +kernel
theorem dX0_cable_98 : decode cX0_cable 98 = .ok (.invokevirtual 97, 3) := by decide +kernel
theorem dX0_cable_101 : decode cX0_cable 101 = .ok (.aload_n 0, 1) := by decide +kernel
theorem dX0_cable_102 : decode cX0_cable 102 = .ok (.dup, 1) := by decide +kernel
theorem dX0_cable_103 : decode cX0_cable 103 = .ok (.getfield 101, 3) := by decide +kernel
theorem dX0_cable_106 : decode cX0_cable 106 = .ok (.iconst 1, 1) := by decide +kernel
theorem dX0_cable_107 : decode cX0_cable 107 = .ok (.iadd, 1) := by decide +kernel
theorem dX0_cable_108 : decode cX0_cable 108 = .ok (.putfield 101, 3) := by decide +kernel
theorem dX0_cable_111 : decode cX0_cable 111 = .ok (.aload_n 0, 1) := by decide +kernel
theorem dX0_cable_112 : decode cX0_cable 112 = .ok (.invokevirtual 52, 3) := by decide +kernel
theorem dX0_cable_115 : decode cX0_cable 115 = .ok (.aload_n 0, 1) := by decide +kernel
theorem dX0_cable_116 : decode cX0_cable 116 = .ok (.getfield 101, 3) := by decide +kernel
theorem dX0_cable_119 : decode cX0_cable 119 = .ok (.ireturn, 1) := by decide +kernel
set_option maxRecDepth 20000 in
theorem ggX0_pull_X0_slotWithCable : GoodIn wsX0_pull wsX0_slotWithCable := goodIn_ca (goodIn_ca (goodIn_r _ [8, 9, 10, 11, 12, 7, 13, 14, 15, 16, 17, 18, 19, 20, 21, 22, 2, 23, 24, 25, 65, 66, 67, 68, 69, 70, 71, 72, 73, 74, 75, 76, 77, 78, 79] (by decide +kernel) (by decide +kernel)) (goodIn_sub (fun _ h => List.mem_cons_of_mem _ (List.mem_append_left _ (List.mem_append_right _ h))) (by decide +kernel))) (goodIn_sub (fun _ h => List.mem_cons_of_mem _ (List.mem_append_right _ h)) (by decide +kernel))
set_option maxRecDepth 20000 in
theorem gX0_pull_X0_slotWithCable : GoodIn wsX0_pull (wsV RX0 105 RX0 yX0_slotWithCable wsX0_slotWithCable) := goodIn_app (goodIn_of _ (by decide +kernel)) ggX0_pull_X0_slotWithCable
set_option maxRecDepth 20000 in
theorem ggX0_pull_X0_at : GoodIn wsX0_pull wsX0_at := goodIn_r _ [25] (by decide +kernel) (by decide +kernel)
set_option maxRecDepth 20000 in
theorem gX0_pull_X0_at : GoodIn wsX0_pull (va_wsS RX0 74 yX0_at wsX0_at) := goodIn_app (goodIn_of _ (by decide +kernel)) ggX0_pull_X0_at
set_option maxRecDepth 20000 in
theorem ggX0_pull_X0_setCable : GoodIn wsX0_pull wsX0_setCable := goodIn_r _ [29, 2, 1, 30, 31, 7, 32, 65, 66, 67, 68, 69, 70, 71, 72, 73, 74, 75, 76, 77, 78, 79] (by decide +kernel) (by decide +kernel)
set_option maxRecDepth 20000 in
theorem gX0_pull_X0_setCable : GoodIn wsX0_pull (wsV RX0 97 RX0 yX0_setCable wsX0_setCable) := goodIn_app (goodIn_of _ (by decide +kernel)) ggX0_pull_X0_setCable
set_option maxRecDepth 20000 in
theorem ggX0_pull_X0_growTree : GoodIn wsX0_pull wsX0_growTree := goodIn_r _ [36, 37, 38, 39, 40, 7, 41, 42, 43, 30, 31, 32, 44, 45, 46, 47, 48, 49, 50, 51, 52, 53, 54, 55, 2, 23, 24, 25, 56, 57, 58, 59, 60, 1, 61, 62, 63, 64, 65, 66, 67, 68, 69, 70, 71, 72, 73, 74, 75, 76, 77, 78, 79] (by decide +kernel) (by decide +kernel)
set_option maxRecDepth 20000 in
theorem gX0_pull_X0_growTree : GoodIn wsX0_pull (wsV RX0 52 RX0 yX0_growTree wsX0_growTree) := goodIn_app (goodIn_of _ (by decide +kernel)) ggX0_pull_X0_growTree
theorem dX0_pull_0 : decode cX0_pull 0 = .ok (.aload_n 0, 1) := by decide +kernel
theorem dX0_pull_1 : decode cX0_pull 1 = .ok (.iload_n 1, 1) := by decide +kernel
theorem dX0_pull_2 : decode cX0_pull 2 = .ok (.iload_n 2, 1) := by decide +kernel
theorem dX0_pull_3 : decode cX0_pull 3 = .ok (.invokevirtual 105, 3) := by decide +kernel
theorem dX0_pull_6 : decode cX0_pull 6 = .ok (.istore_n 3, 1) := by decide +kernel
theorem dX0_pull_7 : decode cX0_pull 7 = .ok (.aload_n 0, 1) := by decide +kernel
theorem dX0_pull_8 : decode cX0_pull 8 = .ok (.getfield 19, 3) := by decide +kernel
theorem dX0_pull_11 : decode cX0_pull 11 = .ok (.iload_n 3, 1) := by decide +kernel
theorem dX0_pull_12 : decode cX0_pull 12 = .ok (.invokestatic 74, 3) := by decide +kernel
theorem dX0_pull_15 : decode cX0_pull 15 = .ok (.istore 4, 2) := by decide +kernel
theorem dX0_pull_17 : decode cX0_pull 17 = .ok (.aload_n 0, 1) := by decide +kernel
theorem dX0_pull_18 : decode cX0_pull 18 = .ok (.aload_n 0, 1) := by decide +kernel
theorem dX0_pull_19 : decode cX0_pull 19 = .ok (.getfield 16, 3) := by decide +kernel
theorem dX0_pull_22 : decode cX0_pull 22 = .ok (.iload_n 3, 1) := by decide +kernel
theorem dX0_pull_23 : decode cX0_pull 23 = .ok (.invokestatic 74, 3) := by decide +kernel
theorem dX0_pull_26 : decode cX0_pull 26 = .ok (.iconst (-1), 1) := by decide +kernel
theorem dX0_pull_27 : decode cX0_pull 27 = .ok (.iconst 0, 1) := by decide +kernel
theorem dX0_pull_28 : decode cX0_pull 28 = .ok (.invokevirtual 97, 3) := by decide +kernel
theorem dX0_pull_31 : decode cX0_pull 31 = .ok (.aload_n 0, 1) := by decide +kernel
theorem dX0_pull_32 : decode cX0_pull 32 = .ok (.iload_n 3, 1) := by decide +kernel
theorem dX0_pull_33 : decode cX0_pull 33 = .ok (.iconst (-1), 1) := by decide +kernel
theorem dX0_pull_34 : decode cX0_pull 34 = .ok (.iconst 0, 1) := by decide +kernel
theorem dX0_pull_35 : decode cX0_pull 35 = .ok (.invokevirtual 97, 3) := by decide +kernel
theorem dX0_pull_38 : decode cX0_pull 38 = .ok (.aload_n 0, 1) := by decide +kernel
theorem dX0_pull_39 : decode cX0_pull 39 = .ok (.dup, 1) := by decide +kernel
theorem dX0_pull_40 : decode cX0_pull 40 = .ok (.getfield 101, 3) := by decide +kernel
theorem dX0_pull_43 : decode cX0_pull 43 = .ok (.iconst 1, 1) := by decide +kernel
theorem dX0_pull_44 : decode cX0_pull 44 = .ok (.isub, 1) := by decide +kernel
theorem dX0_pull_45 : decode cX0_pull 45 = .ok (.putfield 101, 3) := by decide +kernel
theorem dX0_pull_48 : decode cX0_pull 48 = .ok (.aload_n 0, 1) := by decide +kernel
theorem dX0_pull_49 : decode cX0_pull 49 = .ok (.invokevirtual 52, 3) := by decide +kernel
theorem dX0_pull_52 : decode cX0_pull 52 = .ok (.iload 4, 2) := by decide +kernel
theorem dX0_pull_54 : decode cX0_pull 54 = .ok (.ireturn, 1) := by decide +kernel
theorem dX0_tree_0 : decode cX0_tree 0 = .ok (.aload_n 0, 1) := by decide +kernel
theorem dX0_tree_1 : decode cX0_tree 1 = .ok (.getfield 108, 3) := by decide +kernel
theorem dX0_tree_4 : decode cX0_tree 4 = .ok (.istore_n 2, 1) := by decide +kernel
theorem dX0_tree_5 : decode cX0_tree 5 = .ok (.aload_n 0, 1) := by decide +kernel
theorem dX0_tree_6 : decode cX0_tree 6 = .ok (.iload_n 1, 1) := by decide +kernel
theorem dX0_tree_7 : decode cX0_tree 7 = .ok (.putfield 108, 3) := by decide +kernel
theorem dX0_tree_10 : decode cX0_tree 10 = .ok (.iload_n 2, 1) := by decide +kernel
theorem dX0_tree_11 : decode cX0_tree 11 = .ok (.ireturn, 1) := by decide +kernel
set_option maxRecDepth 20000 in
theorem ggX0_note_X0_slotOf : GoodIn wsX0_note wsX0_slotOf := goodIn_ca (goodIn_r _ [5, 6, 7, 8, 9, 4, 10] (by decide +kernel) (by decide +kernel)) (goodIn_sub (fun _ h => List.mem_cons_of_mem _ (List.mem_append_right _ h)) (by decide +kernel))
set_option maxRecDepth 20000 in
theorem gX0_note_X0_slotOf : GoodIn wsX0_note (va_wsS RX0 55 yX0_slotOf wsX0_slotOf) := goodIn_app (goodIn_of _ (by decide +kernel)) ggX0_note_X0_slotOf
set_option maxRecDepth 20000 in
theorem ggX0_note_X0_endName : GoodIn wsX0_note wsX0_endName := goodIn_r _ [13] (by decide +kernel) (by decide +kernel)
set_option maxRecDepth 20000 in
theorem gX0_note_X0_endName : GoodIn wsX0_note (va_wsS RX0 112 yX0_endName wsX0_endName) := goodIn_app (goodIn_of _ (by decide +kernel)) ggX0_note_X0_endName
set_option maxRecDepth 20000 in
theorem ggX0_note_X0_at : GoodIn wsX0_note wsX0_at := goodIn_r _ [16] (by decide +kernel) (by decide +kernel)
set_option maxRecDepth 20000 in
theorem gX0_note_X0_at : GoodIn wsX0_note (va_wsS RX0 74 yX0_at wsX0_at) := goodIn_app (goodIn_of _ (by decide +kernel)) ggX0_note_X0_at
set_option maxRecDepth 20000 in
theorem ggX0_note_X0_put : GoodIn wsX0_note wsX0_put := goodIn_r _ [19] (by decide +kernel) (by decide +kernel)
set_option maxRecDepth 20000 in
theorem gX0_note_X0_put : GoodIn wsX0_note (va_wsS RX0 78 yX0_put wsX0_put) := goodIn_app (goodIn_of _ (by decide +kernel)) ggX0_note_X0_put
theorem dX0_note_0 : decode cX0_note 0 = .ok (.iload_n 1, 1) := by decide +kernel
theorem dX0_note_1 : decode cX0_note 1 = .ok (.iload_n 2, 1) := by decide +kernel
theorem dX0_note_2 : decode cX0_note 2 = .ok (.invokestatic 55, 3) := by decide +kernel
theorem dX0_note_5 : decode cX0_note 5 = .ok (.istore 5, 2) := by decide +kernel
theorem dX0_note_7 : decode cX0_note 7 = .ok (.iload_n 3, 1) := by decide +kernel
theorem dX0_note_8 : decode cX0_note 8 = .ok (.iconst (-1), 1) := by decide +kernel
theorem dX0_note_9 : decode cX0_note 9 = .ok (.if_icmp .ne 7, 3) := by decide +kernel
theorem dX0_note_12 : decode cX0_note 12 = .ok (.iconst (-1), 1) := by decide +kernel
theorem dX0_note_13 : decode cX0_note 13 = .ok (.goto 12, 3) := by decide +kernel
theorem dX0_note_16 : decode cX0_note 16 = .ok (.iload_n 3, 1) := by decide +kernel
theorem dX0_note_17 : decode cX0_note 17 = .ok (.iload 4, 2) := by decide +kernel
theorem dX0_note_19 : decode cX0_note 19 = .ok (.invokestatic 55, 3) := by decide +kernel
theorem dX0_note_22 : decode cX0_note 22 = .ok (.invokestatic 112, 3) := by decide +kernel
theorem dX0_note_25 : decode cX0_note 25 = .ok (.istore 6, 2) := by decide +kernel
theorem dX0_note_27 : decode cX0_note 27 = .ok (.aload_n 0, 1) := by decide +kernel
theorem dX0_note_28 : decode cX0_note 28 = .ok (.getfield 22, 3) := by decide +kernel
theorem dX0_note_31 : decode cX0_note 31 = .ok (.iload 5, 2) := by decide +kernel
theorem dX0_note_33 : decode cX0_note 33 = .ok (.invokestatic 74, 3) := by decide +kernel
theorem dX0_note_36 : decode cX0_note 36 = .ok (.iconst (-1), 1) := by decide +kernel
theorem dX0_note_37 : decode cX0_note 37 = .ok (.if_icmp .eq 7, 3) := by decide +kernel
theorem dX0_note_40 : decode cX0_note 40 = .ok (.iconst 1, 1) := by decide +kernel
theorem dX0_note_41 : decode cX0_note 41 = .ok (.goto 4, 3) := by decide +kernel
theorem dX0_note_44 : decode cX0_note 44 = .ok (.iconst 0, 1) := by decide +kernel
theorem dX0_note_45 : decode cX0_note 45 = .ok (.istore 7, 2) := by decide +kernel
theorem dX0_note_47 : decode cX0_note 47 = .ok (.aload_n 0, 1) := by decide +kernel
theorem dX0_note_48 : decode cX0_note 48 = .ok (.getfield 22, 3) := by decide +kernel
theorem dX0_note_51 : decode cX0_note 51 = .ok (.iload 5, 2) := by decide +kernel
theorem dX0_note_53 : decode cX0_note 53 = .ok (.iload 6, 2) := by decide +kernel
theorem dX0_note_55 : decode cX0_note 55 = .ok (.invokestatic 78, 3) := by decide +kernel
theorem dX0_note_58 : decode cX0_note 58 = .ok (.iload 7, 2) := by decide +kernel
theorem dX0_note_60 : decode cX0_note 60 = .ok (.ireturn, 1) := by decide +kernel
set_option maxRecDepth 20000 in
theorem ggX0_far_X0_slotOf : GoodIn wsX0_far wsX0_slotOf := goodIn_ca (goodIn_r _ [5, 6, 7, 8, 9, 4, 10] (by decide +kernel) (by decide +kernel)) (goodIn_sub (fun _ h => List.mem_cons_of_mem _ (List.mem_append_right _ h)) (by decide +kernel))
set_option maxRecDepth 20000 in
theorem gX0_far_X0_slotOf : GoodIn wsX0_far (va_wsS RX0 55 yX0_slotOf wsX0_slotOf) := goodIn_app (goodIn_of _ (by decide +kernel)) ggX0_far_X0_slotOf
set_option maxRecDepth 20000 in
theorem ggX0_far_X0_at : GoodIn wsX0_far wsX0_at := goodIn_r _ [13] (by decide +kernel) (by decide +kernel)
set_option maxRecDepth 20000 in
theorem gX0_far_X0_at : GoodIn wsX0_far (va_wsS RX0 74 yX0_at wsX0_at) := goodIn_app (goodIn_of _ (by decide +kernel)) ggX0_far_X0_at
set_option maxRecDepth 20000 in
theorem ggX0_far_X0_endName : GoodIn wsX0_far wsX0_endName := goodIn_r _ [16] (by decide +kernel) (by decide +kernel)
set_option maxRecDepth 20000 in
theorem gX0_far_X0_endName : GoodIn wsX0_far (va_wsS RX0 112 yX0_endName wsX0_endName) := goodIn_app (goodIn_of _ (by decide +kernel)) ggX0_far_X0_endName
theorem dX0_far_0 : decode cX0_far 0 = .ok (.aload_n 0, 1) := by decide +kernel
theorem dX0_far_1 : decode cX0_far 1 = .ok (.getfield 16, 3) := by decide +kernel
theorem dX0_far_4 : decode cX0_far 4 = .ok (.iload_n 1, 1) := by decide +kernel
theorem dX0_far_5 : decode cX0_far 5 = .ok (.iload_n 2, 1) := by decide +kernel
theorem dX0_far_6 : decode cX0_far 6 = .ok (.invokestatic 55, 3) := by decide +kernel
theorem dX0_far_9 : decode cX0_far 9 = .ok (.invokestatic 74, 3) := by decide +kernel
theorem dX0_far_12 : decode cX0_far 12 = .ok (.invokestatic 112, 3) := by decide +kernel
theorem dX0_far_15 : decode cX0_far 15 = .ok (.ireturn, 1) := by decide +kernel
set_option maxRecDepth 20000 in
theorem ggX0_isOn_X0_slotWithCable : GoodIn wsX0_isOn wsX0_slotWithCable := goodIn_ca (goodIn_ca (goodIn_r _ [5, 6, 7, 8, 9, 4, 10, 11, 12, 13, 14, 15, 16, 17, 18, 19, 20, 21, 22, 23, 30, 31, 32, 33, 34, 35, 36, 37, 38, 39, 40, 41, 42, 43, 44] (by decide +kernel) (by decide +kernel)) (goodIn_sub (fun _ h => List.mem_cons_of_mem _ (List.mem_append_left _ (List.mem_append_right _ h))) (by decide +kernel))) (goodIn_sub (fun _ h => List.mem_cons_of_mem _ (List.mem_append_right _ h)) (by decide +kernel))
set_option maxRecDepth 20000 in
theorem gX0_isOn_X0_slotWithCable : GoodIn wsX0_isOn (wsV RX0 105 RX0 yX0_slotWithCable wsX0_slotWithCable) := goodIn_app (goodIn_of _ (by decide +kernel)) ggX0_isOn_X0_slotWithCable
set_option maxRecDepth 20000 in
theorem ggX0_isOn_X0_hasLiveCable : GoodIn wsX0_isOn wsX0_hasLiveCable := goodIn_r _ [27, 20, 28, 29, 21, 22, 4, 23, 30, 31, 32, 33, 34, 35, 36, 37, 38, 39, 40, 41, 42, 43, 44] (by decide +kernel) (by decide +kernel)
set_option maxRecDepth 20000 in
theorem gX0_isOn_X0_hasLiveCable : GoodIn wsX0_isOn (wsV RX0 116 RX0 yX0_hasLiveCable wsX0_hasLiveCable) := goodIn_app (goodIn_of _ (by decide +kernel)) ggX0_isOn_X0_hasLiveCable
theorem dX0_isOn_0 : decode cX0_isOn 0 = .ok (.aload_n 0, 1) := by decide +kernel
theorem dX0_isOn_1 : decode cX0_isOn 1 = .ok (.aload_n 0, 1) := by decide +kernel
theorem dX0_isOn_2 : decode cX0_isOn 2 = .ok (.iload_n 1, 1) := by decide +kernel
theorem dX0_isOn_3 : decode cX0_isOn 3 = .ok (.iload_n 2, 1) := by decide +kernel
theorem dX0_isOn_4 : decode cX0_isOn 4 = .ok (.invokevirtual 105, 3) := by decide +kernel
theorem dX0_isOn_7 : decode cX0_isOn 7 = .ok (.invokevirtual 116, 3) := by decide +kernel
theorem dX0_isOn_10 : decode cX0_isOn 10 = .ok (.ireturn, 1) := by decide +kernel
set_option maxRecDepth 20000 in
theorem ggX0_comesAs_X0_checkLane : GoodIn wsX0_comesAs wsX0_checkLane := goodIn_ca (goodIn_r _ [4, 5, 6] (by decide +kernel) (by decide +kernel)) (goodIn_sub (fun _ h => List.mem_cons_of_mem _ (List.mem_append_left _ (List.mem_append_right _ h))) (by decide +kernel))
set_option maxRecDepth 20000 in
theorem gX0_comesAs_X0_checkLane : GoodIn wsX0_comesAs (va_wsS RX0 59 yX0_checkLane wsX0_checkLane) := goodIn_app (goodIn_of _ (by decide +kernel)) ggX0_comesAs_X0_checkLane
set_option maxRecDepth 20000 in
theorem ggX0_comesAs_X0_slotWithCable : GoodIn wsX0_comesAs wsX0_slotWithCable := goodIn_ca (goodIn_ca (goodIn_r _ [10, 11, 12, 13, 14, 3, 15, 5, 6, 16, 17, 18, 19, 20, 21, 22, 23, 24, 25, 26, 37, 38, 39, 40, 41, 42, 43, 44, 45, 46, 47, 48, 49, 50, 51] (by decide +kernel) (by decide +kernel)) (goodIn_sub (fun _ h => List.mem_cons_of_mem _ (List.mem_append_right _ h)) (by decide +kernel))) (goodIn_sub (fun _ h => List.mem_cons_of_mem _ (List.mem_append_left _ (List.mem_append_right _ h))) (by decide +kernel))
set_option maxRecDepth 20000 in
theorem gX0_comesAs_X0_slotWithCable : GoodIn wsX0_comesAs (wsV RX0 105 RX0 yX0_slotWithCable wsX0_slotWithCable) := goodIn_app (goodIn_of _ (by decide +kernel)) ggX0_comesAs_X0_slotWithCable
set_option maxRecDepth 20000 in
theorem ggX0_comesAs_X0_laneBeyond : GoodIn wsX0_comesAs wsX0_laneBeyond := goodIn_r _ [30, 23, 31, 24, 25, 3, 26, 32, 33, 34, 35, 36, 37, 38, 39, 40, 41, 42, 43, 44, 45, 46, 47, 48, 49, 50, 51] (by decide +kernel) (by decide +kernel)
set_option maxRecDepth 20000 in
theorem gX0_comesAs_X0_laneBeyond : GoodIn wsX0_comesAs (wsV RX0 119 RX0 yX0_laneBeyond wsX0_laneBeyond) := goodIn_app (goodIn_of _ (by decide +kernel)) ggX0_comesAs_X0_laneBeyond
theorem dX0_comesAs_0 : decode cX0_comesAs 0 = .ok (.iload_n 3, 1) := by decide +kernel
theorem dX0_comesAs_1 : decode cX0_comesAs 1 = .ok (.invokestatic 59, 3) := by decide +kernel
theorem dX0_comesAs_4 : decode cX0_comesAs 4 = .ok (.aload_n 0, 1) := by decide +kernel
theorem dX0_comesAs_5 : decode cX0_comesAs 5 = .ok (.aload_n 0, 1) := by decide +kernel
theorem dX0_comesAs_6 : decode cX0_comesAs 6 = .ok (.iload_n 1, 1) := by decide +kernel
theorem dX0_comesAs_7 : decode cX0_comesAs 7 = .ok (.iload_n 2, 1) := by decide +kernel
theorem dX0_comesAs_8 : decode cX0_comesAs 8 = .ok (.invokevirtual 105, 3) := by decide +kernel
theorem dX0_comesAs_11 : decode cX0_comesAs 11 = .ok (.iload_n 3, 1) := by decide +kernel
theorem dX0_comesAs_12 : decode cX0_comesAs 12 = .ok (.invokevirtual 119, 3) := by decide +kernel
theorem dX0_comesAs_15 : decode cX0_comesAs 15 = .ok (.ireturn, 1) := by decide +kernel
set_option maxRecDepth 20000 in
theorem ggX0_oneSided_X0_slotWithCable : GoodIn wsX0_oneSided wsX0_slotWithCable := goodIn_ca (goodIn_ca (goodIn_r _ [7, 8, 9, 10, 11, 6, 12, 13, 14, 15, 16, 17, 18, 19, 20, 21, 2, 22, 23, 24, 32, 33, 34, 35, 36, 37, 38, 39, 40, 41, 42, 43, 44, 45, 46] (by decide +kernel) (by decide +kernel)) (goodIn_sub (fun _ h => List.mem_cons_of_mem _ (List.mem_append_left _ (List.mem_append_right _ h))) (by decide +kernel))) (goodIn_sub (fun _ h => List.mem_cons_of_mem _ (List.mem_append_right _ h)) (by decide +kernel))
set_option maxRecDepth 20000 in
theorem gX0_oneSided_X0_slotWithCable : GoodIn wsX0_oneSided (wsV RX0 105 RX0 yX0_slotWithCable wsX0_slotWithCable) := goodIn_app (goodIn_of _ (by decide +kernel)) ggX0_oneSided_X0_slotWithCable
set_option maxRecDepth 20000 in
theorem ggX0_oneSided_X0_at : GoodIn wsX0_oneSided wsX0_at := goodIn_r _ [24] (by decide +kernel) (by decide +kernel)
set_option maxRecDepth 20000 in
theorem gX0_oneSided_X0_at : GoodIn wsX0_oneSided (va_wsS RX0 74 yX0_at wsX0_at) := goodIn_app (goodIn_of _ (by decide +kernel)) ggX0_oneSided_X0_at
set_option maxRecDepth 20000 in
theorem ggX0_oneSided_J6_bitCount_0f7a4 : GoodIn wsX0_oneSided wsJ6_bitCount_0f7a4 := goodIn_r _ [28, 29, 30, 31] (by decide +kernel) (by decide +kernel)
set_option maxRecDepth 20000 in
theorem gX0_oneSided_J6_bitCount_0f7a4 : GoodIn wsX0_oneSided (va_wsS RX0 122 yJ6_bitCount_0f7a4 wsJ6_bitCount_0f7a4) := goodIn_app (goodIn_of _ (by decide +kernel)) ggX0_oneSided_J6_bitCount_0f7a4
theorem dX0_oneSided_0 : decode cX0_oneSided 0 = .ok (.aload_n 0, 1) := by decide +kernel
theorem dX0_oneSided_1 : decode cX0_oneSided 1 = .ok (.iload_n 1, 1) := by decide +kernel
theorem dX0_oneSided_2 : decode cX0_oneSided 2 = .ok (.iload_n 2, 1) := by decide +kernel
theorem dX0_oneSided_3 : decode cX0_oneSided 3 = .ok (.invokevirtual 105, 3) := by decide +kernel
theorem dX0_oneSided_6 : decode cX0_oneSided 6 = .ok (.istore_n 3, 1) := by decide +kernel
theorem dX0_oneSided_7 : decode cX0_oneSided 7 = .ok (.aload_n 0, 1) := by decide +kernel
theorem dX0_oneSided_8 : decode cX0_oneSided 8 = .ok (.getfield 13, 3) := by decide +kernel
theorem dX0_oneSided_11 : decode cX0_oneSided 11 = .ok (.iload_n 3, 1) := by decide +kernel
theorem dX0_oneSided_12 : decode cX0_oneSided 12 = .ok (.invokestatic 74, 3) := by decide +kernel
theorem dX0_oneSided_15 : decode cX0_oneSided 15 = .ok (.aload_n 0, 1) := by decide +kernel
theorem dX0_oneSided_16 : decode cX0_oneSided 16 = .ok (.getfield 13, 3) := by decide +kernel
theorem dX0_oneSided_19 : decode cX0_oneSided 19 = .ok (.aload_n 0, 1) := by decide +kernel
theorem dX0_oneSided_20 : decode cX0_oneSided 20 = .ok (.getfield 16, 3) := by decide +kernel
theorem dX0_oneSided_23 : decode cX0_oneSided 23 = .ok (.iload_n 3, 1) := by decide +kernel
theorem dX0_oneSided_24 : decode cX0_oneSided 24 = .ok (.invokestatic 74, 3) := by decide +kernel
theorem dX0_oneSided_27 : decode cX0_oneSided 27 = .ok (.invokestatic 74, 3) := by decide +kernel
theorem dX0_oneSided_30 : decode cX0_oneSided 30 = .ok (.ixor, 1) := by decide +kernel
theorem dX0_oneSided_31 : decode cX0_oneSided 31 = .ok (.invokestatic 122, 3) := by decide +kernel
theorem dX0_oneSided_34 : decode cX0_oneSided 34 = .ok (.ireturn, 1) := by decide +kernel
set_option maxRecDepth 20000 in
theorem ggX0_wrong_X0_at : GoodIn wsX0_wrong wsX0_at := goodIn_r _ [6] (by decide +kernel) (by decide +kernel)
set_option maxRecDepth 20000 in
theorem gX0_wrong_X0_at : GoodIn wsX0_wrong (va_wsS RX0 74 yX0_at wsX0_at) := goodIn_app (goodIn_of _ (by decide +kernel)) ggX0_wrong_X0_at
set_option maxRecDepth 20000 in
theorem ggX0_wrong_X0_endName : GoodIn wsX0_wrong wsX0_endName := goodIn_r _ [9] (by decide +kernel) (by decide +kernel)
set_option maxRecDepth 20000 in
theorem gX0_wrong_X0_endName : GoodIn wsX0_wrong (va_wsS RX0 112 yX0_endName wsX0_endName) := goodIn_app (goodIn_of _ (by decide +kernel)) ggX0_wrong_X0_endName
theorem dX0_wrong_0 : decode cX0_wrong 0 = .ok (.iconst 0, 1) := by decide +kernel
theorem dX0_wrong_1 : decode cX0_wrong 1 = .ok (.istore_n 1, 1) := by decide +kernel
theorem dX0_wrong_2 : decode cX0_wrong 2 = .ok (.iconst 0, 1) := by decide +kernel
theorem dX0_wrong_3 : decode cX0_wrong 3 = .ok (.istore_n 2, 1) := by decide +kernel
theorem dX0_wrong_4 : decode cX0_wrong 4 = .ok (.iload_n 2, 1) := by decide +kernel
theorem dX0_wrong_5 : decode cX0_wrong 5 = .ok (.bipush 36, 2) := by decide +kernel
theorem dX0_wrong_7 : decode cX0_wrong 7 = .ok (.if_icmp .ge 41, 3) := by decide +kernel
theorem dX0_wrong_10 : decode cX0_wrong 10 = .ok (.aload_n 0, 1) := by decide +kernel
theorem dX0_wrong_11 : decode cX0_wrong 11 = .ok (.getfield 22, 3) := by decide +kernel
theorem dX0_wrong_14 : decode cX0_wrong 14 = .ok (.iload_n 2, 1) := by decide +kernel
theorem dX0_wrong_15 : decode cX0_wrong 15 = .ok (.invokestatic 74, 3) := by decide +kernel
theorem dX0_wrong_18 : decode cX0_wrong 18 = .ok (.istore_n 3, 1) := by decide +kernel
theorem dX0_wrong_19 : decode cX0_wrong 19 = .ok (.iload_n 3, 1) := by decide +kernel
theorem dX0_wrong_20 : decode cX0_wrong 20 = .ok (.iconst (-1), 1) := by decide +kernel
theorem dX0_wrong_21 : decode cX0_wrong 21 = .ok (.if_icmp .eq 21, 3) := by decide +kernel
theorem dX0_wrong_24 : decode cX0_wrong 24 = .ok (.iload_n 3, 1) := by decide +kernel
theorem dX0_wrong_25 : decode cX0_wrong 25 = .ok (.aload_n 0, 1) := by decide +kernel
theorem dX0_wrong_26 : decode cX0_wrong 26 = .ok (.getfield 16, 3) := by decide +kernel
theorem dX0_wrong_29 : decode cX0_wrong 29 = .ok (.iload_n 2, 1) := by decide +kernel
theorem dX0_wrong_30 : decode cX0_wrong 30 = .ok (.invokestatic 74, 3) := by decide +kernel
theorem dX0_wrong_33 : decode cX0_wrong 33 = .ok (.invokestatic 112, 3) := by decide +kernel
theorem dX0_wrong_36 : decode cX0_wrong 36 = .ok (.if_icmp .eq 6, 3) := by decide +kernel
theorem dX0_wrong_39 : decode cX0_wrong 39 = .ok (.iinc 1 1, 3) := by decide +kernel
theorem dX0_wrong_42 : decode cX0_wrong 42 = .ok (.iinc 2 1, 3) := by decide +kernel
theorem dX0_wrong_45 : decode cX0_wrong 45 = .ok (.goto (-41), 3) := by decide +kernel
theorem dX0_wrong_48 : decode cX0_wrong 48 = .ok (.iload_n 1, 1) := by decide +kernel
theorem dX0_wrong_49 : decode cX0_wrong 49 = .ok (.ireturn, 1) := by decide +kernel
set_option maxRecDepth 20000 in
theorem ggX0_root_X0_checkUnit : GoodIn wsX0_root wsX0_checkUnit := goodIn_ca (goodIn_r _ [5, 6, 7] (by decide +kernel) (by decide +kernel)) (goodIn_sub (fun _ h => List.mem_cons_of_mem _ (List.mem_append_right _ h)) (by decide +kernel))
set_option maxRecDepth 20000 in
theorem gX0_root_X0_checkUnit : GoodIn wsX0_root (va_wsS RX0 127 yX0_checkUnit wsX0_checkUnit) := goodIn_app (goodIn_of _ (by decide +kernel)) ggX0_root_X0_checkUnit
set_option maxRecDepth 20000 in
theorem ggX0_root_X0_at : GoodIn wsX0_root wsX0_at := goodIn_r _ [10] (by decide +kernel) (by decide +kernel)
set_option maxRecDepth 20000 in
theorem gX0_root_X0_at : GoodIn wsX0_root (va_wsS RX0 74 yX0_at wsX0_at) := goodIn_app (goodIn_of _ (by decide +kernel)) ggX0_root_X0_at
theorem dX0_root_0 : decode cX0_root 0 = .ok (.iload_n 1, 1) := by decide +kernel
theorem dX0_root_1 : decode cX0_root 1 = .ok (.invokestatic 127, 3) := by decide +kernel
theorem dX0_root_4 : decode cX0_root 4 = .ok (.aload_n 0, 1) := by decide +kernel
theorem dX0_root_5 : decode cX0_root 5 = .ok (.getfield 25, 3) := by decide +kernel
theorem dX0_root_8 : decode cX0_root 8 = .ok (.iload_n 1, 1) := by decide +kernel
theorem dX0_root_9 : decode cX0_root 9 = .ok (.invokestatic 74, 3) := by decide +kernel
theorem dX0_root_12 : decode cX0_root 12 = .ok (.ireturn, 1) := by decide +kernel
set_option maxRecDepth 20000 in
theorem ggX0_costOf_X0_checkUnit : GoodIn wsX0_costOf wsX0_checkUnit := goodIn_ca (goodIn_r _ [5, 6, 7] (by decide +kernel) (by decide +kernel)) (goodIn_sub (fun _ h => List.mem_cons_of_mem _ (List.mem_append_right _ h)) (by decide +kernel))
set_option maxRecDepth 20000 in
theorem gX0_costOf_X0_checkUnit : GoodIn wsX0_costOf (va_wsS RX0 127 yX0_checkUnit wsX0_checkUnit) := goodIn_app (goodIn_of _ (by decide +kernel)) ggX0_costOf_X0_checkUnit
set_option maxRecDepth 20000 in
theorem ggX0_costOf_X0_at : GoodIn wsX0_costOf wsX0_at := goodIn_r _ [10] (by decide +kernel) (by decide +kernel)
set_option maxRecDepth 20000 in
theorem gX0_costOf_X0_at : GoodIn wsX0_costOf (va_wsS RX0 74 yX0_at wsX0_at) := goodIn_app (goodIn_of _ (by decide +kernel)) ggX0_costOf_X0_at
theorem dX0_costOf_0 : decode cX0_costOf 0 = .ok (.iload_n 1, 1) := by decide +kernel
theorem dX0_costOf_1 : decode cX0_costOf 1 = .ok (.invokestatic 127, 3) := by decide +kernel
theorem dX0_costOf_4 : decode cX0_costOf 4 = .ok (.aload_n 0, 1) := by decide +kernel
theorem dX0_costOf_5 : decode cX0_costOf 5 = .ok (.getfield 28, 3) := by decide +kernel
theorem dX0_costOf_8 : decode cX0_costOf 8 = .ok (.iload_n 1, 1) := by decide +kernel
theorem dX0_costOf_9 : decode cX0_costOf 9 = .ok (.invokestatic 74, 3) := by decide +kernel
theorem dX0_costOf_12 : decode cX0_costOf 12 = .ok (.ireturn, 1) := by decide +kernel
set_option maxRecDepth 20000 in
theorem ggX0_wayUp_X0_checkUnit : GoodIn wsX0_wayUp wsX0_checkUnit := goodIn_ca (goodIn_r _ [5, 6, 7] (by decide +kernel) (by decide +kernel)) (goodIn_sub (fun _ h => List.mem_cons_of_mem _ (List.mem_append_right _ h)) (by decide +kernel))
set_option maxRecDepth 20000 in
theorem gX0_wayUp_X0_checkUnit : GoodIn wsX0_wayUp (va_wsS RX0 127 yX0_checkUnit wsX0_checkUnit) := goodIn_app (goodIn_of _ (by decide +kernel)) ggX0_wayUp_X0_checkUnit
set_option maxRecDepth 20000 in
theorem ggX0_wayUp_X0_at : GoodIn wsX0_wayUp wsX0_at := goodIn_r _ [10] (by decide +kernel) (by decide +kernel)
set_option maxRecDepth 20000 in
theorem gX0_wayUp_X0_at : GoodIn wsX0_wayUp (va_wsS RX0 74 yX0_at wsX0_at) := goodIn_app (goodIn_of _ (by decide +kernel)) ggX0_wayUp_X0_at
theorem dX0_wayUp_0 : decode cX0_wayUp 0 = .ok (.iload_n 1, 1) := by decide +kernel
theorem dX0_wayUp_1 : decode cX0_wayUp 1 = .ok (.invokestatic 127, 3) := by decide +kernel
theorem dX0_wayUp_4 : decode cX0_wayUp 4 = .ok (.aload_n 0, 1) := by decide +kernel
theorem dX0_wayUp_5 : decode cX0_wayUp 5 = .ok (.getfield 31, 3) := by decide +kernel
theorem dX0_wayUp_8 : decode cX0_wayUp 8 = .ok (.iload_n 1, 1) := by decide +kernel
theorem dX0_wayUp_9 : decode cX0_wayUp 9 = .ok (.invokestatic 74, 3) := by decide +kernel
theorem dX0_wayUp_12 : decode cX0_wayUp 12 = .ok (.istore_n 2, 1) := by decide +kernel
theorem dX0_wayUp_13 : decode cX0_wayUp 13 = .ok (.iload_n 2, 1) := by decide +kernel
theorem dX0_wayUp_14 : decode cX0_wayUp 14 = .ok (.iconst (-1), 1) := by decide +kernel
theorem dX0_wayUp_15 : decode cX0_wayUp 15 = .ok (.if_icmp .ne 7, 3) := by decide +kernel
theorem dX0_wayUp_18 : decode cX0_wayUp 18 = .ok (.iconst (-1), 1) := by decide +kernel
theorem dX0_wayUp_19 : decode cX0_wayUp 19 = .ok (.goto 7, 3) := by decide +kernel
theorem dX0_wayUp_22 : decode cX0_wayUp 22 = .ok (.iload_n 2, 1) := by decide +kernel
theorem dX0_wayUp_23 : decode cX0_wayUp 23 = .ok (.bipush 6, 2) := by decide +kernel
theorem dX0_wayUp_25 : decode cX0_wayUp 25 = .ok (.irem, 1) := by decide +kernel
theorem dX0_wayUp_26 : decode cX0_wayUp 26 = .ok (.ireturn, 1) := by decide +kernel
set_option maxRecDepth 20000 in
theorem ggX0_hops_X0_placeOf : GoodIn wsX0_hops wsX0_placeOf := goodIn_ca (goodIn_r _ [5, 6, 7, 4, 8, 9, 10, 11, 12, 13] (by decide +kernel) (by decide +kernel)) (goodIn_sub (fun _ h => List.mem_cons_of_mem _ (List.mem_append_right _ h)) (by decide +kernel))
set_option maxRecDepth 20000 in
theorem gX0_hops_X0_placeOf : GoodIn wsX0_hops (va_wsS RX0 130 yX0_placeOf wsX0_placeOf) := goodIn_app (goodIn_of _ (by decide +kernel)) ggX0_hops_X0_placeOf
set_option maxRecDepth 20000 in
theorem ggX0_hops_X0_forgetWalks : GoodIn wsX0_hops wsX0_forgetWalks := goodIn_r _ [17, 1, 18, 19, 20, 21, 22, 63, 64, 65, 66, 67, 68, 69, 70, 71, 72, 73, 74, 75, 76, 77] (by decide +kernel) (by decide +kernel)
set_option maxRecDepth 20000 in
theorem gX0_hops_X0_forgetWalks : GoodIn wsX0_hops (wsV RX0 133 RX0 yX0_forgetWalks wsX0_forgetWalks) := goodIn_app (goodIn_of _ (by decide +kernel)) ggX0_hops_X0_forgetWalks
set_option maxRecDepth 20000 in
theorem ggX0_hops_X0_walkFrom : GoodIn wsX0_hops wsX0_walkFrom := goodIn_r _ [26, 18, 27, 28, 29, 30, 4, 31, 1, 32, 33, 34, 35, 36, 37, 38, 39, 40, 41, 42, 43, 44, 45, 46, 47, 48, 49, 50, 51, 52, 53, 54, 55, 56, 57, 58, 59, 60, 61, 62, 63, 64, 65, 66, 67, 68, 69, 70, 71, 72, 73, 74, 75, 76, 77] (by decide +kernel) (by decide +kernel)
set_option maxRecDepth 20000 in
theorem gX0_hops_X0_walkFrom : GoodIn wsX0_hops (wsV RX0 136 RX0 yX0_walkFrom wsX0_walkFrom) := goodIn_app (goodIn_of _ (by decide +kernel)) ggX0_hops_X0_walkFrom
set_option maxRecDepth 20000 in
theorem ggX0_hops_X0_at : GoodIn wsX0_hops wsX0_at := goodIn_r _ [37] (by decide +kernel) (by decide +kernel)
set_option maxRecDepth 20000 in
theorem gX0_hops_X0_at : GoodIn wsX0_hops (va_wsS RX0 74 yX0_at wsX0_at) := goodIn_app (goodIn_of _ (by decide +kernel)) ggX0_hops_X0_at
theorem dX0_hops_0 : decode cX0_hops 0 = .ok (.iload_n 1, 1) := by decide +kernel
theorem dX0_hops_1 : decode cX0_hops 1 = .ok (.iload_n 2, 1) := by decide +kernel
theorem dX0_hops_2 : decode cX0_hops 2 = .ok (.invokestatic 130, 3) := by decide +kernel
theorem dX0_hops_5 : decode cX0_hops 5 = .ok (.istore 5, 2) := by decide +kernel
theorem dX0_hops_7 : decode cX0_hops 7 = .ok (.iload_n 3, 1) := by decide +kernel
theorem dX0_hops_8 : decode cX0_hops 8 = .ok (.iload 4, 2) := by decide +kernel
theorem dX0_hops_10 : decode cX0_hops 10 = .ok (.invokestatic 130, 3) := by decide +kernel
theorem dX0_hops_13 : decode cX0_hops 13 = .ok (.istore 6, 2) := by decide +kernel
theorem dX0_hops_15 : decode cX0_hops 15 = .ok (.aload_n 0, 1) := by decide +kernel
theorem dX0_hops_16 : decode cX0_hops 16 = .ok (.invokevirtual 133, 3) := by decide +kernel
theorem dX0_hops_19 : decode cX0_hops 19 = .ok (.aload_n 0, 1) := by decide +kernel
theorem dX0_hops_20 : decode cX0_hops 20 = .ok (.iload 5, 2) := by decide +kernel
theorem dX0_hops_22 : decode cX0_hops 22 = .ok (.invokevirtual 136, 3) := by decide +kernel
theorem dX0_hops_25 : decode cX0_hops 25 = .ok (.aload_n 0, 1) := by decide +kernel
theorem dX0_hops_26 : decode cX0_hops 26 = .ok (.getfield 34, 3) := by decide +kernel
theorem dX0_hops_29 : decode cX0_hops 29 = .ok (.iload 6, 2) := by decide +kernel
theorem dX0_hops_31 : decode cX0_hops 31 = .ok (.invokestatic 74, 3) := by decide +kernel
theorem dX0_hops_34 : decode cX0_hops 34 = .ok (.ireturn, 1) := by decide +kernel
set_option maxRecDepth 20000 in
theorem ggX0_meet_X0_slotOf : GoodIn wsX0_meet wsX0_slotOf := goodIn_ca (goodIn_r _ [5, 6, 7, 8, 9, 4, 10] (by decide +kernel) (by decide +kernel)) (goodIn_sub (fun _ h => List.mem_cons_of_mem _ (List.mem_append_right _ h)) (by decide +kernel))
set_option maxRecDepth 20000 in
theorem gX0_meet_X0_slotOf : GoodIn wsX0_meet (va_wsS RX0 55 yX0_slotOf wsX0_slotOf) := goodIn_app (goodIn_of _ (by decide +kernel)) ggX0_meet_X0_slotOf
set_option maxRecDepth 20000 in
theorem ggX0_meet_X0_at : GoodIn wsX0_meet wsX0_at := goodIn_r _ [13] (by decide +kernel) (by decide +kernel)
set_option maxRecDepth 20000 in
theorem gX0_meet_X0_at : GoodIn wsX0_meet (va_wsS RX0 74 yX0_at wsX0_at) := goodIn_app (goodIn_of _ (by decide +kernel)) ggX0_meet_X0_at
set_option maxRecDepth 20000 in
theorem ggX0_meet_X0_hops : GoodIn wsX0_meet wsX0_hops := goodIn_ca (goodIn_r _ [17, 18, 19, 20, 4, 21, 8, 9, 10, 6, 7, 22, 23, 24, 25, 26, 27, 28, 29, 30, 31, 32, 33, 34, 35, 36, 37, 38, 39, 40, 41, 42, 43, 44, 45, 11, 12, 13, 46, 47, 48, 49, 50, 51, 52, 53, 54, 55, 56, 57, 58, 59, 60, 61, 62, 63, 64, 1, 65, 66, 67, 68, 69, 70, 71, 72, 73, 74, 75, 76, 77, 78, 79, 80, 81, 82, 83, 84] (by decide +kernel) (by decide +kernel)) (goodIn_sub (fun _ h => List.mem_cons_of_mem _ (List.mem_append_right _ h)) (by decide +kernel))
set_option maxRecDepth 20000 in
theorem gX0_meet_X0_hops : GoodIn wsX0_meet (wsV RX0 139 RX0 yX0_hops wsX0_hops) := goodIn_app (goodIn_of _ (by decide +kernel)) ggX0_meet_X0_hops
theorem dX0_meet_0 : decode cX0_meet 0 = .ok (.aload_n 0, 1) := by decide +kernel
theorem dX0_meet_1 : decode cX0_meet 1 = .ok (.getfield 9, 3) := by decide +kernel
theorem dX0_meet_4 : decode cX0_meet 4 = .ok (.iload_n 1, 1) := by decide +kernel
theorem dX0_meet_5 : decode cX0_meet 5 = .ok (.iload_n 2, 1) := by decide +kernel
theorem dX0_meet_6 : decode cX0_meet 6 = .ok (.invokestatic 55, 3) := by decide +kernel
theorem dX0_meet_9 : decode cX0_meet 9 = .ok (.invokestatic 74, 3) := by decide +kernel
theorem dX0_meet_12 : decode cX0_meet 12 = .ok (.istore 5, 2) := by decide +kernel
theorem dX0_meet_14 : decode cX0_meet 14 = .ok (.aload_n 0, 1) := by decide +kernel
theorem dX0_meet_15 : decode cX0_meet 15 = .ok (.getfield 9, 3) := by decide +kernel
theorem dX0_meet_18 : decode cX0_meet 18 = .ok (.iload_n 3, 1) := by decide +kernel
theorem dX0_meet_19 : decode cX0_meet 19 = .ok (.iload 4, 2) := by decide +kernel
theorem dX0_meet_21 : decode cX0_meet 21 = .ok (.invokestatic 55, 3) := by decide +kernel
theorem dX0_meet_24 : decode cX0_meet 24 = .ok (.invokestatic 74, 3) := by decide +kernel
theorem dX0_meet_27 : decode cX0_meet 27 = .ok (.istore 6, 2) := by decide +kernel
theorem dX0_meet_29 : decode cX0_meet 29 = .ok (.iload 5, 2) := by decide +kernel
theorem dX0_meet_31 : decode cX0_meet 31 = .ok (.ifCond .eq 26, 3) := by decide +kernel
theorem dX0_meet_34 : decode cX0_meet 34 = .ok (.iload 6, 2) := by decide +kernel
theorem dX0_meet_36 : decode cX0_meet 36 = .ok (.ifCond .eq 21, 3) := by decide +kernel
theorem dX0_meet_39 : decode cX0_meet 39 = .ok (.aload_n 0, 1) := by decide +kernel
theorem dX0_meet_40 : decode cX0_meet 40 = .ok (.iload_n 1, 1) := by decide +kernel
theorem dX0_meet_41 : decode cX0_meet 41 = .ok (.iload 5, 2) := by decide +kernel
theorem dX0_meet_43 : decode cX0_meet 43 = .ok (.iload_n 3, 1) := by decide +kernel
theorem dX0_meet_44 : decode cX0_meet 44 = .ok (.iload 6, 2) := by decide +kernel
theorem dX0_meet_46 : decode cX0_meet 46 = .ok (.invokevirtual 139, 3) := by decide +kernel
theorem dX0_meet_49 : decode cX0_meet 49 = .ok (.iconst (-1), 1) := by decide +kernel
theorem dX0_meet_50 : decode cX0_meet 50 = .ok (.if_icmp .eq 7, 3) := by decide +kernel
theorem dX0_meet_53 : decode cX0_meet 53 = .ok (.iconst 1, 1) := by decide +kernel
theorem dX0_meet_54 : decode cX0_meet 54 = .ok (.goto 4, 3) := by decide +kernel
theorem dX0_meet_57 : decode cX0_meet 57 = .ok (.iconst 0, 1) := by decide +kernel
theorem dX0_meet_58 : decode cX0_meet 58 = .ok (.ireturn, 1) := by decide +kernel
set_option maxRecDepth 20000 in
theorem ggX0_joined_X0_placeOf : GoodIn wsX0_joined wsX0_placeOf := goodIn_ca (goodIn_r _ [5, 6, 7, 4, 8, 9, 10, 11, 12, 13] (by decide +kernel) (by decide +kernel)) (goodIn_sub (fun _ h => List.mem_cons_of_mem _ (List.mem_append_right _ h)) (by decide +kernel))
set_option maxRecDepth 20000 in
theorem gX0_joined_X0_placeOf : GoodIn wsX0_joined (va_wsS RX0 130 yX0_placeOf wsX0_placeOf) := goodIn_app (goodIn_of _ (by decide +kernel)) ggX0_joined_X0_placeOf
set_option maxRecDepth 20000 in
theorem ggX0_joined_X0_forgetWalks : GoodIn wsX0_joined wsX0_forgetWalks := goodIn_r _ [17, 18, 1, 19, 20, 21, 22, 63, 64, 65, 66, 67, 68, 69, 70, 71, 72, 73, 74, 75, 76, 77] (by decide +kernel) (by decide +kernel)
set_option maxRecDepth 20000 in
theorem gX0_joined_X0_forgetWalks : GoodIn wsX0_joined (wsV RX0 133 RX0 yX0_forgetWalks wsX0_forgetWalks) := goodIn_app (goodIn_of _ (by decide +kernel)) ggX0_joined_X0_forgetWalks
set_option maxRecDepth 20000 in
theorem ggX0_joined_X0_walkFrom : GoodIn wsX0_joined wsX0_walkFrom := goodIn_r _ [26, 1, 27, 28, 29, 30, 4, 31, 18, 32, 33, 34, 35, 36, 37, 38, 39, 40, 41, 42, 43, 44, 45, 46, 47, 48, 49, 50, 51, 52, 53, 54, 55, 56, 57, 58, 59, 60, 61, 62, 63, 64, 65, 66, 67, 68, 69, 70, 71, 72, 73, 74, 75, 76, 77] (by decide +kernel) (by decide +kernel)
set_option maxRecDepth 20000 in
theorem gX0_joined_X0_walkFrom : GoodIn wsX0_joined (wsV RX0 136 RX0 yX0_walkFrom wsX0_walkFrom) := goodIn_app (goodIn_of _ (by decide +kernel)) ggX0_joined_X0_walkFrom
theorem dX0_joined_0 : decode cX0_joined 0 = .ok (.iload_n 1, 1) := by decide +kernel
theorem dX0_joined_1 : decode cX0_joined 1 = .ok (.iload_n 2, 1) := by decide +kernel
theorem dX0_joined_2 : decode cX0_joined 2 = .ok (.invokestatic 130, 3) := by decide +kernel
theorem dX0_joined_5 : decode cX0_joined 5 = .ok (.istore_n 3, 1) := by decide +kernel
theorem dX0_joined_6 : decode cX0_joined 6 = .ok (.aload_n 0, 1) := by decide +kernel
theorem dX0_joined_7 : decode cX0_joined 7 = .ok (.invokevirtual 133, 3) := by decide +kernel
theorem dX0_joined_10 : decode cX0_joined 10 = .ok (.aload_n 0, 1) := by decide +kernel
theorem dX0_joined_11 : decode cX0_joined 11 = .ok (.iload_n 3, 1) := by decide +kernel
theorem dX0_joined_12 : decode cX0_joined 12 = .ok (.invokevirtual 136, 3) := by decide +kernel
theorem dX0_joined_15 : decode cX0_joined 15 = .ok (.aload_n 0, 1) := by decide +kernel
theorem dX0_joined_16 : decode cX0_joined 16 = .ok (.getfield 143, 3) := by decide +kernel
theorem dX0_joined_19 : decode cX0_joined 19 = .ok (.ireturn, 1) := by decide +kernel
set_option maxRecDepth 20000 in
theorem ggX0_islands_X0_forgetWalks : GoodIn wsX0_islands wsX0_forgetWalks := goodIn_r _ [6, 1, 7, 8, 9, 10, 11, 56, 57, 58, 59, 60, 61, 62, 63, 64, 65, 66, 67, 68, 69, 70] (by decide +kernel) (by decide +kernel)
set_option maxRecDepth 20000 in
theorem gX0_islands_X0_forgetWalks : GoodIn wsX0_islands (wsV RX0 133 RX0 yX0_forgetWalks wsX0_forgetWalks) := goodIn_app (goodIn_of _ (by decide +kernel)) ggX0_islands_X0_forgetWalks
set_option maxRecDepth 20000 in
theorem ggX0_islands_X0_isUsed : GoodIn wsX0_islands wsX0_isUsed := goodIn_r _ [15, 16, 17, 18, 19, 5, 20, 21, 22, 23, 24, 56, 57, 58, 59, 60, 61, 62, 63, 64, 65, 66, 67, 68, 69, 70] (by decide +kernel) (by decide +kernel)
set_option maxRecDepth 20000 in
theorem gX0_islands_X0_isUsed : GoodIn wsX0_islands (wsV RX0 146 RX0 yX0_isUsed wsX0_isUsed) := goodIn_app (goodIn_of _ (by decide +kernel)) ggX0_islands_X0_isUsed
set_option maxRecDepth 20000 in
theorem ggX0_islands_X0_at : GoodIn wsX0_islands wsX0_at := goodIn_r _ [24] (by decide +kernel) (by decide +kernel)
set_option maxRecDepth 20000 in
theorem gX0_islands_X0_at : GoodIn wsX0_islands (va_wsS RX0 74 yX0_at wsX0_at) := goodIn_app (goodIn_of _ (by decide +kernel)) ggX0_islands_X0_at
set_option maxRecDepth 20000 in
theorem ggX0_islands_X0_walkFrom : GoodIn wsX0_islands wsX0_walkFrom := goodIn_r _ [28, 7, 29, 30, 31, 32, 5, 33, 1, 34, 35, 36, 22, 23, 24, 37, 38, 39, 40, 41, 42, 43, 44, 45, 46, 47, 48, 49, 50, 51, 52, 53, 54, 55, 16, 17, 18, 19, 20, 21, 56, 57, 58, 59, 60, 61, 62, 63, 64, 65, 66, 67, 68, 69, 70] (by decide +kernel) (by decide +kernel)
set_option maxRecDepth 20000 in
theorem gX0_islands_X0_walkFrom : GoodIn wsX0_islands (wsV RX0 136 RX0 yX0_walkFrom wsX0_walkFrom) := goodIn_app (goodIn_of _ (by decide +kernel)) ggX0_islands_X0_walkFrom
theorem dX0_islands_0 : decode cX0_islands 0 = .ok (.iconst 0, 1) := by decide +kernel
theorem dX0_islands_1 : decode cX0_islands 1 = .ok (.istore_n 1, 1) := by decide +kernel
theorem dX0_islands_2 : decode cX0_islands 2 = .ok (.aload_n 0, 1) := by decide +kernel
theorem dX0_islands_3 : decode cX0_islands 3 = .ok (.invokevirtual 133, 3) := by decide +kernel
theorem dX0_islands_6 : decode cX0_islands 6 = .ok (.iconst 0, 1) := by decide +kernel
theorem dX0_islands_7 : decode cX0_islands 7 = .ok (.istore_n 2, 1) := by decide +kernel
theorem dX0_islands_8 : decode cX0_islands 8 = .ok (.iload_n 2, 1) := by decide +kernel
theorem dX0_islands_9 : decode cX0_islands 9 = .ok (.bipush 6, 2) := by decide +kernel
theorem dX0_islands_11 : decode cX0_islands 11 = .ok (.if_icmp .ge 62, 3) := by decide +kernel
theorem dX0_islands_14 : decode cX0_islands 14 = .ok (.iconst 1, 1) := by decide +kernel
theorem dX0_islands_15 : decode cX0_islands 15 = .ok (.istore_n 3, 1) := by decide +kernel
theorem dX0_islands_16 : decode cX0_islands 16 = .ok (.iload_n 3, 1) := by decide +kernel
theorem dX0_islands_17 : decode cX0_islands 17 = .ok (.bipush 15, 2) := by decide +kernel
theorem dX0_islands_19 : decode cX0_islands 19 = .ok (.if_icmp .gt 48, 3) := by decide +kernel
theorem dX0_islands_22 : decode cX0_islands 22 = .ok (.iload_n 2, 1) := by decide +kernel
theorem dX0_islands_23 : decode cX0_islands 23 = .ok (.bipush 16, 2) := by decide +kernel
theorem dX0_islands_25 : decode cX0_islands 25 = .ok (.imul, 1) := by decide +kernel
theorem dX0_islands_26 : decode cX0_islands 26 = .ok (.iload_n 3, 1) := by decide +kernel
theorem dX0_islands_27 : decode cX0_islands 27 = .ok (.iadd, 1) := by decide +kernel
theorem dX0_islands_28 : decode cX0_islands 28 = .ok (.istore 4, 2) := by decide +kernel
theorem dX0_islands_30 : decode cX0_islands 30 = .ok (.aload_n 0, 1) := by decide +kernel
theorem dX0_islands_31 : decode cX0_islands 31 = .ok (.iload_n 2, 1) := by decide +kernel
theorem dX0_islands_32 : decode cX0_islands 32 = .ok (.iload_n 3, 1) := by decide +kernel
theorem dX0_islands_33 : decode cX0_islands 33 = .ok (.invokevirtual 146, 3) := by decide +kernel
theorem dX0_islands_36 : decode cX0_islands 36 = .ok (.ifCond .eq 25, 3) := by decide +kernel
theorem dX0_islands_39 : decode cX0_islands 39 = .ok (.aload_n 0, 1) := by decide +kernel
theorem dX0_islands_40 : decode cX0_islands 40 = .ok (.getfield 34, 3) := by decide +kernel
theorem dX0_islands_43 : decode cX0_islands 43 = .ok (.iload 4, 2) := by decide +kernel
theorem dX0_islands_45 : decode cX0_islands 45 = .ok (.invokestatic 74, 3) := by decide +kernel
theorem dX0_islands_48 : decode cX0_islands 48 = .ok (.iconst (-1), 1) := by decide +kernel
theorem dX0_islands_49 : decode cX0_islands 49 = .ok (.if_icmp .ne 12, 3) := by decide +kernel
theorem dX0_islands_52 : decode cX0_islands 52 = .ok (.aload_n 0, 1) := by decide +kernel
theorem dX0_islands_53 : decode cX0_islands 53 = .ok (.iload 4, 2) := by decide +kernel
theorem dX0_islands_55 : decode cX0_islands 55 = .ok (.invokevirtual 136, 3) := by decide +kernel
theorem dX0_islands_58 : decode cX0_islands 58 = .ok (.iinc 1 1, 3) := by decide +kernel
theorem dX0_islands_61 : decode cX0_islands 61 = .ok (.iinc 3 1, 3) := by decide +kernel
theorem dX0_islands_64 : decode cX0_islands 64 = .ok (.goto (-48), 3) := by decide +kernel
theorem dX0_islands_67 : decode cX0_islands 67 = .ok (.iinc 2 1, 3) := by decide +kernel
theorem dX0_islands_70 : decode cX0_islands 70 = .ok (.goto (-62), 3) := by decide +kernel
theorem dX0_islands_73 : decode cX0_islands 73 = .ok (.iload_n 1, 1) := by decide +kernel
theorem dX0_islands_74 : decode cX0_islands 74 = .ok (.ireturn, 1) := by decide +kernel
set_option maxRecDepth 20000 in
theorem ggX0_loops_X0_countWays : GoodIn wsX0_loops wsX0_countWays := goodIn_r _ [5, 6, 7, 8, 9, 4, 10, 11, 12, 13, 14, 15, 16, 17, 18, 19, 20, 21, 22, 23, 24, 25, 26, 27, 28, 79, 80, 81, 82, 83, 84, 85, 86, 87, 88, 89, 90, 91, 92, 93] (by decide +kernel) (by decide +kernel)
set_option maxRecDepth 20000 in
theorem gX0_loops_X0_countWays : GoodIn wsX0_loops (wsV RX0 149 RX0 yX0_countWays wsX0_countWays) := goodIn_app (goodIn_of _ (by decide +kernel)) ggX0_loops_X0_countWays
set_option maxRecDepth 20000 in
theorem ggX0_loops_X0_countUsedPlaces : GoodIn wsX0_loops wsX0_countUsedPlaces := goodIn_r _ [32, 33, 34, 35, 4, 36, 21, 37, 38, 39, 40, 20, 13, 14, 15, 79, 80, 81, 82, 83, 84, 85, 86, 87, 88, 89, 90, 91, 92, 93] (by decide +kernel) (by decide +kernel)
set_option maxRecDepth 20000 in
theorem gX0_loops_X0_countUsedPlaces : GoodIn wsX0_loops (wsV RX0 153 RX0 yX0_countUsedPlaces wsX0_countUsedPlaces) := goodIn_app (goodIn_of _ (by decide +kernel)) ggX0_loops_X0_countUsedPlaces
set_option maxRecDepth 20000 in
theorem ggX0_loops_X0_islands : GoodIn wsX0_loops wsX0_islands := goodIn_r _ [44, 45, 46, 47, 48, 4, 49, 50, 51, 52, 53, 54, 33, 34, 35, 36, 21, 37, 38, 39, 40, 20, 13, 14, 15, 55, 56, 57, 58, 59, 60, 61, 62, 63, 64, 65, 66, 67, 68, 69, 70, 71, 72, 73, 74, 6, 7, 8, 9, 10, 11, 12, 75, 76, 77, 78, 79, 80, 81, 82, 83, 84, 85, 86, 87, 88, 89, 90, 91, 92, 93] (by decide +kernel) (by decide +kernel)
set_option maxRecDepth 20000 in
theorem gX0_loops_X0_islands : GoodIn wsX0_loops (wsV RX0 156 RX0 yX0_islands wsX0_islands) := goodIn_app (goodIn_of _ (by decide +kernel)) ggX0_loops_X0_islands
theorem dX0_loops_0 : decode cX0_loops 0 = .ok (.aload_n 0, 1) := by decide +kernel
theorem dX0_loops_1 : decode cX0_loops 1 = .ok (.invokevirtual 149, 3) := by decide +kernel
theorem dX0_loops_4 : decode cX0_loops 4 = .ok (.aload_n 0, 1) := by decide +kernel
theorem dX0_loops_5 : decode cX0_loops 5 = .ok (.invokevirtual 153, 3) := by decide +kernel
theorem dX0_loops_8 : decode cX0_loops 8 = .ok (.isub, 1) := by decide +kernel
theorem dX0_loops_9 : decode cX0_loops 9 = .ok (.aload_n 0, 1) := by decide +kernel
theorem dX0_loops_10 : decode cX0_loops 10 = .ok (.invokevirtual 156, 3) := by decide +kernel
theorem dX0_loops_13 : decode cX0_loops 13 = .ok (.iadd, 1) := by decide +kernel
theorem dX0_loops_14 : decode cX0_loops 14 = .ok (.ireturn, 1) := by decide +kernel
set_option maxRecDepth 20000 in
theorem ggX0_changes_X0_slotOf : GoodIn wsX0_changes wsX0_slotOf := goodIn_ca (goodIn_r _ [7, 8, 9, 10, 11, 6, 12] (by decide +kernel) (by decide +kernel)) (goodIn_sub (fun _ h => List.mem_cons_of_mem _ (List.mem_append_right _ h)) (by decide +kernel))
set_option maxRecDepth 20000 in
theorem gX0_changes_X0_slotOf : GoodIn wsX0_changes (va_wsS RX0 55 yX0_slotOf wsX0_slotOf) := goodIn_app (goodIn_of _ (by decide +kernel)) ggX0_changes_X0_slotOf
set_option maxRecDepth 20000 in
theorem ggX0_changes_X0_at : GoodIn wsX0_changes wsX0_at := goodIn_r _ [15] (by decide +kernel) (by decide +kernel)
set_option maxRecDepth 20000 in
theorem gX0_changes_X0_at : GoodIn wsX0_changes (va_wsS RX0 74 yX0_at wsX0_at) := goodIn_app (goodIn_of _ (by decide +kernel)) ggX0_changes_X0_at
set_option maxRecDepth 20000 in
theorem ggX0_changes_X0_changesOver : GoodIn wsX0_changes wsX0_changesOver := goodIn_r _ [19, 20, 1, 21, 22, 23, 6, 24, 25, 26, 13, 14, 15, 27, 28, 29, 30, 31, 47, 48, 49, 50, 51, 52, 53, 54, 55, 56, 57, 58, 59, 60, 61] (by decide +kernel) (by decide +kernel)
set_option maxRecDepth 20000 in
theorem gX0_changes_X0_changesOver : GoodIn wsX0_changes (wsV RX0 159 RX0 yX0_changesOver wsX0_changesOver) := goodIn_app (goodIn_of _ (by decide +kernel)) ggX0_changes_X0_changesOver
set_option maxRecDepth 20000 in
theorem ggX0_changes_X0_put : GoodIn wsX0_changes wsX0_put := goodIn_r _ [34] (by decide +kernel) (by decide +kernel)
set_option maxRecDepth 20000 in
theorem gX0_changes_X0_put : GoodIn wsX0_changes (va_wsS RX0 78 yX0_put wsX0_put) := goodIn_app (goodIn_of _ (by decide +kernel)) ggX0_changes_X0_put
set_option maxRecDepth 20000 in
theorem ggX0_changes_J7_fill_53178 : GoodIn wsX0_changes wsJ7_fill_53178 := goodIn_r _ [38] (by decide +kernel) (by decide +kernel)
set_option maxRecDepth 20000 in
theorem gX0_changes_J7_fill_53178 : GoodIn wsX0_changes (va_wsS RX0 46 yJ7_fill_53178 wsJ7_fill_53178) := goodIn_app (goodIn_of _ (by decide +kernel)) ggX0_changes_J7_fill_53178
set_option maxRecDepth 20000 in
theorem ggX0_changes_X0_leastSums : GoodIn wsX0_changes wsX0_leastSums := goodIn_r _ [42, 43, 44, 45, 6, 46, 20, 13, 14, 15, 32, 33, 34, 47, 48, 49, 50, 51, 52, 53, 54, 55, 56, 57, 58, 59, 60, 61] (by decide +kernel) (by decide +kernel)
set_option maxRecDepth 20000 in
theorem gX0_changes_X0_leastSums : GoodIn wsX0_changes (wsV RX0 162 RX0 yX0_leastSums wsX0_leastSums) := goodIn_app (goodIn_of _ (by decide +kernel)) ggX0_changes_X0_leastSums
theorem dX0_changes_0 : decode cX0_changes 0 = .ok (.aload_n 0, 1) := by decide +kernel
theorem dX0_changes_1 : decode cX0_changes 1 = .ok (.getfield 9, 3) := by decide +kernel
theorem dX0_changes_4 : decode cX0_changes 4 = .ok (.iload_n 1, 1) := by decide +kernel
theorem dX0_changes_5 : decode cX0_changes 5 = .ok (.iload_n 2, 1) := by decide +kernel
theorem dX0_changes_6 : decode cX0_changes 6 = .ok (.invokestatic 55, 3) := by decide +kernel
theorem dX0_changes_9 : decode cX0_changes 9 = .ok (.invokestatic 74, 3) := by decide +kernel
theorem dX0_changes_12 : decode cX0_changes 12 = .ok (.istore 5, 2) := by decide +kernel
theorem dX0_changes_14 : decode cX0_changes 14 = .ok (.aload_n 0, 1) := by decide +kernel
theorem dX0_changes_15 : decode cX0_changes 15 = .ok (.getfield 9, 3) := by decide +kernel
theorem dX0_changes_18 : decode cX0_changes 18 = .ok (.iload_n 3, 1) := by decide +kernel
theorem dX0_changes_19 : decode cX0_changes 19 = .ok (.iload 4, 2) := by decide +kernel
theorem dX0_changes_21 : decode cX0_changes 21 = .ok (.invokestatic 55, 3) := by decide +kernel
theorem dX0_changes_24 : decode cX0_changes 24 = .ok (.invokestatic 74, 3) := by decide +kernel
theorem dX0_changes_27 : decode cX0_changes 27 = .ok (.istore 6, 2) := by decide +kernel
theorem dX0_changes_29 : decode cX0_changes 29 = .ok (.iload 5, 2) := by decide +kernel
theorem dX0_changes_31 : decode cX0_changes 31 = .ok (.ifCond .eq 10, 3) := by decide +kernel
theorem dX0_changes_34 : decode cX0_changes 34 = .ok (.iload 5, 2) := by decide +kernel
theorem dX0_changes_36 : decode cX0_changes 36 = .ok (.iload 6, 2) := by decide +kernel
theorem dX0_changes_38 : decode cX0_changes 38 = .ok (.if_icmp .eq 5, 3) := by decide +kernel
theorem dX0_changes_41 : decode cX0_changes 41 = .ok (.iconst (-1), 1) := by decide +kernel
theorem dX0_changes_42 : decode cX0_changes 42 = .ok (.ireturn, 1) := by decide +kernel
theorem dX0_changes_43 : decode cX0_changes 43 = .ok (.iconst 0, 1) := by decide +kernel
theorem dX0_changes_44 : decode cX0_changes 44 = .ok (.istore 7, 2) := by decide +kernel
theorem dX0_changes_46 : decode cX0_changes 46 = .ok (.iload 7, 2) := by decide +kernel
theorem dX0_changes_48 : decode cX0_changes 48 = .ok (.bipush 36, 2) := by decide +kernel
theorem dX0_changes_50 : decode cX0_changes 50 = .ok (.if_icmp .ge 26, 3) := by decide +kernel
theorem dX0_changes_53 : decode cX0_changes 53 = .ok (.aload_n 0, 1) := by decide +kernel
theorem dX0_changes_54 : decode cX0_changes 54 = .ok (.getfield 40, 3) := by decide +kernel
theorem dX0_changes_57 : decode cX0_changes 57 = .ok (.iload 7, 2) := by decide +kernel
theorem dX0_changes_59 : decode cX0_changes 59 = .ok (.aload_n 0, 1) := by decide +kernel
theorem dX0_changes_60 : decode cX0_changes 60 = .ok (.iload 7, 2) := by decide +kernel
theorem dX0_changes_62 : decode cX0_changes 62 = .ok (.iload 5, 2) := by decide +kernel
theorem dX0_changes_64 : decode cX0_changes 64 = .ok (.invokevirtual 159, 3) := by decide +kernel
theorem dX0_changes_67 : decode cX0_changes 67 = .ok (.invokestatic 78, 3) := by decide +kernel
theorem dX0_changes_70 : decode cX0_changes 70 = .ok (.iinc 7 1, 3) := by decide +kernel
theorem dX0_changes_73 : decode cX0_changes 73 = .ok (.goto (-27), 3) := by decide +kernel
theorem dX0_changes_76 : decode cX0_changes 76 = .ok (.aload_n 0, 1) := by decide +kernel
theorem dX0_changes_77 : decode cX0_changes 77 = .ok (.getfield 43, 3) := by decide +kernel
theorem dX0_changes_80 : decode cX0_changes 80 = .ok (.sipush 1000, 3) := by decide +kernel
theorem dX0_changes_83 : decode cX0_changes 83 = .ok (.invokestatic 46, 3) := by decide +kernel
theorem dX0_changes_86 : decode cX0_changes 86 = .ok (.aload_n 0, 1) := by decide +kernel
theorem dX0_changes_87 : decode cX0_changes 87 = .ok (.getfield 43, 3) := by decide +kernel
theorem dX0_changes_90 : decode cX0_changes 90 = .ok (.iload_n 1, 1) := by decide +kernel
theorem dX0_changes_91 : decode cX0_changes 91 = .ok (.iconst 0, 1) := by decide +kernel
theorem dX0_changes_92 : decode cX0_changes 92 = .ok (.invokestatic 78, 3) := by decide +kernel
theorem dX0_changes_95 : decode cX0_changes 95 = .ok (.aload_n 0, 1) := by decide +kernel
theorem dX0_changes_96 : decode cX0_changes 96 = .ok (.aload_n 0, 1) := by decide +kernel
theorem dX0_changes_97 : decode cX0_changes 97 = .ok (.getfield 43, 3) := by decide +kernel
theorem dX0_changes_100 : decode cX0_changes 100 = .ok (.aload_n 0, 1) := by decide +kernel
theorem dX0_changes_101 : decode cX0_changes 101 = .ok (.getfield 40, 3) := by decide +kernel
theorem dX0_changes_104 : decode cX0_changes 104 = .ok (.invokevirtual 162, 3) := by decide +kernel
theorem dX0_changes_107 : decode cX0_changes 107 = .ok (.aload_n 0, 1) := by decide +kernel
theorem dX0_changes_108 : decode cX0_changes 108 = .ok (.getfield 43, 3) := by decide +kernel
theorem dX0_changes_111 : decode cX0_changes 111 = .ok (.iload_n 3, 1) := by decide +kernel
theorem dX0_changes_112 : decode cX0_changes 112 = .ok (.invokestatic 74, 3) := by decide +kernel
theorem dX0_changes_115 : decode cX0_changes 115 = .ok (.istore 7, 2) := by decide +kernel
theorem dX0_changes_117 : decode cX0_changes 117 = .ok (.iload 7, 2) := by decide +kernel
theorem dX0_changes_119 : decode cX0_changes 119 = .ok (.sipush 1000, 3) := by decide +kernel
theorem dX0_changes_122 : decode cX0_changes 122 = .ok (.if_icmp .ne 7, 3) := by decide +kernel
theorem dX0_changes_125 : decode cX0_changes 125 = .ok (.iconst (-1), 1) := by decide +kernel
theorem dX0_changes_126 : decode cX0_changes 126 = .ok (.goto 5, 3) := by decide +kernel
theorem dX0_changes_129 : decode cX0_changes 129 = .ok (.iload 7, 2) := by decide +kernel
theorem dX0_changes_131 : decode cX0_changes 131 = .ok (.ireturn, 1) := by decide +kernel
theorem dX0_checkUnit_0 : decode cX0_checkUnit 0 = .ok (.iload_n 0, 1) := by decide +kernel
theorem dX0_checkUnit_1 : decode cX0_checkUnit 1 = .ok (.ifCond .lt 9, 3) := by decide +kernel
theorem dX0_checkUnit_4 : decode cX0_checkUnit 4 = .ok (.iload_n 0, 1) := by decide +kernel
theorem dX0_checkUnit_5 : decode cX0_checkUnit 5 = .ok (.bipush 6, 2) := by decide +kernel
theorem dX0_checkUnit_7 : decode cX0_checkUnit 7 = .ok (.if_icmp .lt 13, 3) := by decide +kernel
theorem dX0_checkUnit_10 : decode cX0_checkUnit 10 = .ok (.new 84, 3) := by decide +kernel
theorem dX0_checkUnit_13 : decode cX0_checkUnit 13 = .ok (.dup, 1) := by decide +kernel
theorem dX0_checkUnit_14 : decode cX0_checkUnit 14 = .ok (.ldc 166, 2) := by decide +kernel
theorem dX0_checkUnit_16 : decode cX0_checkUnit 16 = .ok (.invokespecial 88, 3) := by decide +kernel
theorem dX0_checkUnit_19 : decode cX0_checkUnit 19 = .ok (.athrow, 1) := by decide +kernel
theorem dX0_checkUnit_20 : decode cX0_checkUnit 20 = .ok (.return_, 1) := by decide +kernel
theorem dX0_checkLane_0 : decode cX0_checkLane 0 = .ok (.iload_n 0, 1) := by decide +kernel
theorem dX0_checkLane_1 : decode cX0_checkLane 1 = .ok (.iconst 1, 1) := by decide +kernel
theorem dX0_checkLane_2 : decode cX0_checkLane 2 = .ok (.if_icmp .lt 9, 3) := by decide +kernel
theorem dX0_checkLane_5 : decode cX0_checkLane 5 = .ok (.iload_n 0, 1) := by decide +kernel
theorem dX0_checkLane_6 : decode cX0_checkLane 6 = .ok (.bipush 15, 2) := by decide +kernel
theorem dX0_checkLane_8 : decode cX0_checkLane 8 = .ok (.if_icmp .le 13, 3) := by decide +kernel
theorem dX0_checkLane_11 : decode cX0_checkLane 11 = .ok (.new 84, 3) := by decide +kernel
theorem dX0_checkLane_14 : decode cX0_checkLane 14 = .ok (.dup, 1) := by decide +kernel
theorem dX0_checkLane_15 : decode cX0_checkLane 15 = .ok (.ldc 168, 2) := by decide +kernel
theorem dX0_checkLane_17 : decode cX0_checkLane 17 = .ok (.invokespecial 88, 3) := by decide +kernel
theorem dX0_checkLane_20 : decode cX0_checkLane 20 = .ok (.athrow, 1) := by decide +kernel
theorem dX0_checkLane_21 : decode cX0_checkLane 21 = .ok (.return_, 1) := by decide +kernel
set_option maxRecDepth 20000 in
theorem ggX0_slotOf_X0_checkUnit : GoodIn wsX0_slotOf wsX0_checkUnit := goodIn_ca (goodIn_r _ [6, 1, 2] (by decide +kernel) (by decide +kernel)) (goodIn_sub (fun _ h => List.mem_cons_of_mem _ (List.mem_append_right _ h)) (by decide +kernel))
set_option maxRecDepth 20000 in
theorem gX0_slotOf_X0_checkUnit : GoodIn wsX0_slotOf (va_wsS RX0 127 yX0_checkUnit wsX0_checkUnit) := goodIn_app (goodIn_of _ (by decide +kernel)) ggX0_slotOf_X0_checkUnit
theorem dX0_slotOf_0 : decode cX0_slotOf 0 = .ok (.iload_n 0, 1) := by decide +kernel
theorem dX0_slotOf_1 : decode cX0_slotOf 1 = .ok (.invokestatic 127, 3) := by decide +kernel
theorem dX0_slotOf_4 : decode cX0_slotOf 4 = .ok (.iload_n 1, 1) := by decide +kernel
theorem dX0_slotOf_5 : decode cX0_slotOf 5 = .ok (.ifCond .lt 9, 3) := by decide +kernel
theorem dX0_slotOf_8 : decode cX0_slotOf 8 = .ok (.iload_n 1, 1) := by decide +kernel
theorem dX0_slotOf_9 : decode cX0_slotOf 9 = .ok (.bipush 6, 2) := by decide +kernel
theorem dX0_slotOf_11 : decode cX0_slotOf 11 = .ok (.if_icmp .lt 13, 3) := by decide +kernel
theorem dX0_slotOf_14 : decode cX0_slotOf 14 = .ok (.new 84, 3) := by decide +kernel
theorem dX0_slotOf_17 : decode cX0_slotOf 17 = .ok (.dup, 1) := by decide +kernel
theorem dX0_slotOf_18 : decode cX0_slotOf 18 = .ok (.ldc 170, 2) := by decide +kernel
theorem dX0_slotOf_20 : decode cX0_slotOf 20 = .ok (.invokespecial 88, 3) := by decide +kernel
theorem dX0_slotOf_23 : decode cX0_slotOf 23 = .ok (.athrow, 1) := by decide +kernel
theorem dX0_slotOf_24 : decode cX0_slotOf 24 = .ok (.iload_n 0, 1) := by decide +kernel
theorem dX0_slotOf_25 : decode cX0_slotOf 25 = .ok (.bipush 6, 2) := by decide +kernel
theorem dX0_slotOf_27 : decode cX0_slotOf 27 = .ok (.imul, 1) := by decide +kernel
theorem dX0_slotOf_28 : decode cX0_slotOf 28 = .ok (.iload_n 1, 1) := by decide +kernel
theorem dX0_slotOf_29 : decode cX0_slotOf 29 = .ok (.iadd, 1) := by decide +kernel
theorem dX0_slotOf_30 : decode cX0_slotOf 30 = .ok (.ireturn, 1) := by decide +kernel
set_option maxRecDepth 20000 in
theorem ggX0_placeOf_X0_checkUnit : GoodIn wsX0_placeOf wsX0_checkUnit := goodIn_ca (goodIn_r _ [4, 5, 6] (by decide +kernel) (by decide +kernel)) (goodIn_sub (fun _ h => List.mem_cons_of_mem _ (List.mem_append_right _ h)) (by decide +kernel))
set_option maxRecDepth 20000 in
theorem gX0_placeOf_X0_checkUnit : GoodIn wsX0_placeOf (va_wsS RX0 127 yX0_checkUnit wsX0_checkUnit) := goodIn_app (goodIn_of _ (by decide +kernel)) ggX0_placeOf_X0_checkUnit
set_option maxRecDepth 20000 in
theorem ggX0_placeOf_X0_checkLane : GoodIn wsX0_placeOf wsX0_checkLane := goodIn_ca (goodIn_r _ [9, 5, 6] (by decide +kernel) (by decide +kernel)) (goodIn_sub (fun _ h => List.mem_cons_of_mem _ (List.mem_append_right _ h)) (by decide +kernel))
set_option maxRecDepth 20000 in
theorem gX0_placeOf_X0_checkLane : GoodIn wsX0_placeOf (va_wsS RX0 59 yX0_checkLane wsX0_checkLane) := goodIn_app (goodIn_of _ (by decide +kernel)) ggX0_placeOf_X0_checkLane
theorem dX0_placeOf_0 : decode cX0_placeOf 0 = .ok (.iload_n 0, 1) := by decide +kernel
theorem dX0_placeOf_1 : decode cX0_placeOf 1 = .ok (.invokestatic 127, 3) := by decide +kernel
theorem dX0_placeOf_4 : decode cX0_placeOf 4 = .ok (.iload_n 1, 1) := by decide +kernel
theorem dX0_placeOf_5 : decode cX0_placeOf 5 = .ok (.invokestatic 59, 3) := by decide +kernel
theorem dX0_placeOf_8 : decode cX0_placeOf 8 = .ok (.iload_n 0, 1) := by decide +kernel
theorem dX0_placeOf_9 : decode cX0_placeOf 9 = .ok (.bipush 16, 2) := by decide +kernel
theorem dX0_placeOf_11 : decode cX0_placeOf 11 = .ok (.imul, 1) := by decide +kernel
theorem dX0_placeOf_12 : decode cX0_placeOf 12 = .ok (.iload_n 1, 1) := by decide +kernel
theorem dX0_placeOf_13 : decode cX0_placeOf 13 = .ok (.iadd, 1) := by decide +kernel
theorem dX0_placeOf_14 : decode cX0_placeOf 14 = .ok (.ireturn, 1) := by decide +kernel
set_option maxRecDepth 20000 in
theorem ggX0_slotWithCable_X0_slotOf : GoodIn wsX0_slotWithCable wsX0_slotOf := goodIn_ca (goodIn_r _ [6, 7, 8, 9, 10, 5, 11] (by decide +kernel) (by decide +kernel)) (goodIn_sub (fun _ h => List.mem_cons_of_mem _ (List.mem_append_right _ h)) (by decide +kernel))
set_option maxRecDepth 20000 in
theorem gX0_slotWithCable_X0_slotOf : GoodIn wsX0_slotWithCable (va_wsS RX0 55 yX0_slotOf wsX0_slotOf) := goodIn_app (goodIn_of _ (by decide +kernel)) ggX0_slotWithCable_X0_slotOf
set_option maxRecDepth 20000 in
theorem ggX0_slotWithCable_X0_hasCable : GoodIn wsX0_slotWithCable wsX0_hasCable := goodIn_r _ [15, 16, 17, 18, 5, 19, 20, 21, 22, 23, 24, 25, 26, 27, 28, 29, 30, 31, 32, 33, 34] (by decide +kernel) (by decide +kernel)
set_option maxRecDepth 20000 in
theorem gX0_slotWithCable_X0_hasCable : GoodIn wsX0_slotWithCable (wsV RX0 91 RX0 yX0_hasCable wsX0_hasCable) := goodIn_app (goodIn_of _ (by decide +kernel)) ggX0_slotWithCable_X0_hasCable
theorem dX0_slotWithCable_0 : decode cX0_slotWithCable 0 = .ok (.iload_n 1, 1) := by decide +kernel
theorem dX0_slotWithCable_1 : decode cX0_slotWithCable 1 = .ok (.iload_n 2, 1) := by decide +kernel
theorem dX0_slotWithCable_2 : decode cX0_slotWithCable 2 = .ok (.invokestatic 55, 3) := by decide +kernel
theorem dX0_slotWithCable_5 : decode cX0_slotWithCable 5 = .ok (.istore_n 3, 1) := by decide +kernel
theorem dX0_slotWithCable_6 : decode cX0_slotWithCable 6 = .ok (.aload_n 0, 1) := by decide +kernel
theorem dX0_slotWithCable_7 : decode cX0_slotWithCable 7 = .ok (.iload_n 3, 1) := by decide +kernel
theorem dX0_slotWithCable_8 : decode cX0_slotWithCable 8 = .ok (.invokevirtual 91, 3) := by decide +kernel
theorem dX0_slotWithCable_11 : decode cX0_slotWithCable 11 = .ok (.ifCond .ne 13, 3) := by decide +kernel
theorem dX0_slotWithCable_14 : decode cX0_slotWithCable 14 = .ok (.new 172, 3) := by decide +kernel
theorem dX0_slotWithCable_17 : decode cX0_slotWithCable 17 = .ok (.dup, 1) := by decide +kernel
theorem dX0_slotWithCable_18 : decode cX0_slotWithCable 18 = .ok (.ldc 174, 2) := by decide +kernel
theorem dX0_slotWithCable_20 : decode cX0_slotWithCable 20 = .ok (.invokespecial 176, 3) := by decide +kernel
theorem dX0_slotWithCable_23 : decode cX0_slotWithCable 23 = .ok (.athrow, 1) := by decide +kernel
theorem dX0_slotWithCable_24 : decode cX0_slotWithCable 24 = .ok (.iload_n 3, 1) := by decide +kernel
theorem dX0_slotWithCable_25 : decode cX0_slotWithCable 25 = .ok (.ireturn, 1) := by decide +kernel
theorem dX0_at_0 : decode cX0_at 0 = .ok (.iload_n 1, 1) := by decide +kernel
theorem dX0_at_1 : decode cX0_at 1 = .ok (.ifCond .lt 15, 3) := by decide +kernel
theorem dX0_at_4 : decode cX0_at 4 = .ok (.iload_n 1, 1) := by decide +kernel
theorem dX0_at_5 : decode cX0_at 5 = .ok (.aload_n 0, 1) := by decide +kernel
theorem dX0_at_6 : decode cX0_at 6 = .ok (.arraylength, 1) := by decide +kernel
theorem dX0_at_7 : decode cX0_at 7 = .ok (.if_icmp .ge 9, 3) := by decide +kernel
theorem dX0_at_10 : decode cX0_at 10 = .ok (.aload_n 0, 1) := by decide +kernel
theorem dX0_at_11 : decode cX0_at 11 = .ok (.iload_n 1, 1) := by decide +kernel
theorem dX0_at_12 : decode cX0_at 12 = .ok (.iaload, 1) := by decide +kernel
theorem dX0_at_13 : decode cX0_at 13 = .ok (.goto 4, 3) := by decide +kernel
theorem dX0_at_16 : decode cX0_at 16 = .ok (.iconst (-1), 1) := by decide +kernel
theorem dX0_at_17 : decode cX0_at 17 = .ok (.ireturn, 1) := by decide +kernel
theorem dX0_put_0 : decode cX0_put 0 = .ok (.iload_n 1, 1) := by decide +kernel
theorem dX0_put_1 : decode cX0_put 1 = .ok (.ifCond .lt 13, 3) := by decide +kernel
theorem dX0_put_4 : decode cX0_put 4 = .ok (.iload_n 1, 1) := by decide +kernel
theorem dX0_put_5 : decode cX0_put 5 = .ok (.aload_n 0, 1) := by decide +kernel
theorem dX0_put_6 : decode cX0_put 6 = .ok (.arraylength, 1) := by decide +kernel
theorem dX0_put_7 : decode cX0_put 7 = .ok (.if_icmp .ge 7, 3) := by decide +kernel
theorem dX0_put_10 : decode cX0_put 10 = .ok (.aload_n 0, 1) := by decide +kernel
theorem dX0_put_11 : decode cX0_put 11 = .ok (.iload_n 1, 1) := by decide +kernel
theorem dX0_put_12 : decode cX0_put 12 = .ok (.iload_n 2, 1) := by decide +kernel
theorem dX0_put_13 : decode cX0_put 13 = .ok (.iastore, 1) := by decide +kernel
theorem dX0_put_14 : decode cX0_put 14 = .ok (.return_, 1) := by decide +kernel
set_option maxRecDepth 20000 in
theorem ggX0_isTagged_X0_at : GoodIn wsX0_isTagged wsX0_at := goodIn_r _ [5] (by decide +kernel) (by decide +kernel)
set_option maxRecDepth 20000 in
theorem gX0_isTagged_X0_at : GoodIn wsX0_isTagged (va_wsS RX0 74 yX0_at wsX0_at) := goodIn_app (goodIn_of _ (by decide +kernel)) ggX0_isTagged_X0_at
theorem dX0_isTagged_0 : decode cX0_isTagged 0 = .ok (.aload_n 0, 1) := by decide +kernel
theorem dX0_isTagged_1 : decode cX0_isTagged 1 = .ok (.getfield 13, 3) := by decide +kernel
theorem dX0_isTagged_4 : decode cX0_isTagged 4 = .ok (.iload_n 1, 1) := by decide +kernel
theorem dX0_isTagged_5 : decode cX0_isTagged 5 = .ok (.invokestatic 74, 3) := by decide +kernel
theorem dX0_isTagged_8 : decode cX0_isTagged 8 = .ok (.iconst 1, 1) := by decide +kernel
theorem dX0_isTagged_9 : decode cX0_isTagged 9 = .ok (.iload_n 2, 1) := by decide +kernel
theorem dX0_isTagged_10 : decode cX0_isTagged 10 = .ok (.ishl, 1) := by decide +kernel
theorem dX0_isTagged_11 : decode cX0_isTagged 11 = .ok (.iand, 1) := by decide +kernel
theorem dX0_isTagged_12 : decode cX0_isTagged 12 = .ok (.ifCond .eq 7, 3) := by decide +kernel
theorem dX0_isTagged_15 : decode cX0_isTagged 15 = .ok (.iconst 1, 1) := by decide +kernel
theorem dX0_isTagged_16 : decode cX0_isTagged 16 = .ok (.goto 4, 3) := by decide +kernel
theorem dX0_isTagged_19 : decode cX0_isTagged 19 = .ok (.iconst 0, 1) := by decide +kernel
theorem dX0_isTagged_20 : decode cX0_isTagged 20 = .ok (.ireturn, 1) := by decide +kernel
set_option maxRecDepth 20000 in
theorem ggX0_hasCable_X0_at : GoodIn wsX0_hasCable wsX0_at := goodIn_r _ [5] (by decide +kernel) (by decide +kernel)
set_option maxRecDepth 20000 in
theorem gX0_hasCable_X0_at : GoodIn wsX0_hasCable (va_wsS RX0 74 yX0_at wsX0_at) := goodIn_app (goodIn_of _ (by decide +kernel)) ggX0_hasCable_X0_at
theorem dX0_hasCable_0 : decode cX0_hasCable 0 = .ok (.aload_n 0, 1) := by decide +kernel
theorem dX0_hasCable_1 : decode cX0_hasCable 1 = .ok (.getfield 16, 3) := by decide +kernel
theorem dX0_hasCable_4 : decode cX0_hasCable 4 = .ok (.iload_n 1, 1) := by decide +kernel
theorem dX0_hasCable_5 : decode cX0_hasCable 5 = .ok (.invokestatic 74, 3) := by decide +kernel
theorem dX0_hasCable_8 : decode cX0_hasCable 8 = .ok (.iconst (-1), 1) := by decide +kernel
theorem dX0_hasCable_9 : decode cX0_hasCable 9 = .ok (.if_icmp .eq 7, 3) := by decide +kernel
theorem dX0_hasCable_12 : decode cX0_hasCable 12 = .ok (.iconst 1, 1) := by decide +kernel
theorem dX0_hasCable_13 : decode cX0_hasCable 13 = .ok (.goto 4, 3) := by decide +kernel
theorem dX0_hasCable_16 : decode cX0_hasCable 16 = .ok (.iconst 0, 1) := by decide +kernel
theorem dX0_hasCable_17 : decode cX0_hasCable 17 = .ok (.ireturn, 1) := by decide +kernel
set_option maxRecDepth 20000 in
theorem ggX0_setCable_X0_put : GoodIn wsX0_setCable wsX0_put := goodIn_r _ [6] (by decide +kernel) (by decide +kernel)
set_option maxRecDepth 20000 in
theorem gX0_setCable_X0_put : GoodIn wsX0_setCable (va_wsS RX0 78 yX0_put wsX0_put) := goodIn_app (goodIn_of _ (by decide +kernel)) ggX0_setCable_X0_put
theorem dX0_setCable_0 : decode cX0_setCable 0 = .ok (.aload_n 0, 1) := by decide +kernel
theorem dX0_setCable_1 : decode cX0_setCable 1 = .ok (.getfield 16, 3) := by decide +kernel
theorem dX0_setCable_4 : decode cX0_setCable 4 = .ok (.iload_n 1, 1) := by decide +kernel
theorem dX0_setCable_5 : decode cX0_setCable 5 = .ok (.iload_n 2, 1) := by decide +kernel
theorem dX0_setCable_6 : decode cX0_setCable 6 = .ok (.invokestatic 78, 3) := by decide +kernel
theorem dX0_setCable_9 : decode cX0_setCable 9 = .ok (.aload_n 0, 1) := by decide +kernel
theorem dX0_setCable_10 : decode cX0_setCable 10 = .ok (.getfield 19, 3) := by decide +kernel
theorem dX0_setCable_13 : decode cX0_setCable 13 = .ok (.iload_n 1, 1) := by decide +kernel
theorem dX0_setCable_14 : decode cX0_setCable 14 = .ok (.iload_n 3, 1) := by decide +kernel
theorem dX0_setCable_15 : decode cX0_setCable 15 = .ok (.invokestatic 78, 3) := by decide +kernel
theorem dX0_setCable_18 : decode cX0_setCable 18 = .ok (.return_, 1) := by decide +kernel
theorem dX0_endName_0 : decode cX0_endName 0 = .ok (.iload_n 0, 1) := by decide +kernel
theorem dX0_endName_1 : decode cX0_endName 1 = .ok (.iconst (-1), 1) := by decide +kernel
theorem dX0_endName_2 : decode cX0_endName 2 = .ok (.if_icmp .ne 7, 3) := by decide +kernel
theorem dX0_endName_5 : decode cX0_endName 5 = .ok (.iconst (-1), 1) := by decide +kernel
theorem dX0_endName_6 : decode cX0_endName 6 = .ok (.goto 15, 3) := by decide +kernel
theorem dX0_endName_9 : decode cX0_endName 9 = .ok (.iload_n 0, 1) := by decide +kernel
theorem dX0_endName_10 : decode cX0_endName 10 = .ok (.bipush 6, 2) := by decide +kernel
theorem dX0_endName_12 : decode cX0_endName 12 = .ok (.idiv, 1) := by decide +kernel
theorem dX0_endName_13 : decode cX0_endName 13 = .ok (.bipush 10, 2) := by decide +kernel
theorem dX0_endName_15 : decode cX0_endName 15 = .ok (.imul, 1) := by decide +kernel
theorem dX0_endName_16 : decode cX0_endName 16 = .ok (.iload_n 0, 1) := by decide +kernel
theorem dX0_endName_17 : decode cX0_endName 17 = .ok (.bipush 6, 2) := by decide +kernel
theorem dX0_endName_19 : decode cX0_endName 19 = .ok (.irem, 1) := by decide +kernel
theorem dX0_endName_20 : decode cX0_endName 20 = .ok (.iadd, 1) := by decide +kernel
theorem dX0_endName_21 : decode cX0_endName 21 = .ok (.ireturn, 1) := by decide +kernel
set_option maxRecDepth 20000 in
theorem ggX0_hasLiveCable_X0_at : GoodIn wsX0_hasLiveCable wsX0_at := goodIn_r _ [7] (by decide +kernel) (by decide +kernel)
set_option maxRecDepth 20000 in
theorem gX0_hasLiveCable_X0_at : GoodIn wsX0_hasLiveCable (va_wsS RX0 74 yX0_at wsX0_at) := goodIn_app (goodIn_of _ (by decide +kernel)) ggX0_hasLiveCable_X0_at
theorem dX0_hasLiveCable_0 : decode cX0_hasLiveCable 0 = .ok (.aload_n 0, 1) := by decide +kernel
theorem dX0_hasLiveCable_1 : decode cX0_hasLiveCable 1 = .ok (.getfield 16, 3) := by decide +kernel
theorem dX0_hasLiveCable_4 : decode cX0_hasLiveCable 4 = .ok (.iload_n 1, 1) := by decide +kernel
theorem dX0_hasLiveCable_5 : decode cX0_hasLiveCable 5 = .ok (.invokestatic 74, 3) := by decide +kernel
theorem dX0_hasLiveCable_8 : decode cX0_hasLiveCable 8 = .ok (.istore_n 2, 1) := by decide +kernel
theorem dX0_hasLiveCable_9 : decode cX0_hasLiveCable 9 = .ok (.iload_n 2, 1) := by decide +kernel
theorem dX0_hasLiveCable_10 : decode cX0_hasLiveCable 10 = .ok (.iconst (-1), 1) := by decide +kernel
theorem dX0_hasLiveCable_11 : decode cX0_hasLiveCable 11 = .ok (.if_icmp .ne 5, 3) := by decide +kernel
theorem dX0_hasLiveCable_14 : decode cX0_hasLiveCable 14 = .ok (.iconst 0, 1) := by decide +kernel
theorem dX0_hasLiveCable_15 : decode cX0_hasLiveCable 15 = .ok (.ireturn, 1) := by decide +kernel
theorem dX0_hasLiveCable_16 : decode cX0_hasLiveCable 16 = .ok (.aload_n 0, 1) := by decide +kernel
theorem dX0_hasLiveCable_17 : decode cX0_hasLiveCable 17 = .ok (.getfield 108, 3) := by decide +kernel
theorem dX0_hasLiveCable_20 : decode cX0_hasLiveCable 20 = .ok (.ifCond .eq 33, 3) := by decide +kernel
theorem dX0_hasLiveCable_23 : decode cX0_hasLiveCable 23 = .ok (.aload_n 0, 1) := by decide +kernel
theorem dX0_hasLiveCable_24 : decode cX0_hasLiveCable 24 = .ok (.getfield 31, 3) := by decide +kernel
theorem dX0_hasLiveCable_27 : decode cX0_hasLiveCable 27 = .ok (.iload_n 1, 1) := by decide +kernel
theorem dX0_hasLiveCable_28 : decode cX0_hasLiveCable 28 = .ok (.bipush 6, 2) := by decide +kernel
theorem dX0_hasLiveCable_30 : decode cX0_hasLiveCable 30 = .ok (.idiv, 1) := by decide +kernel
theorem dX0_hasLiveCable_31 : decode cX0_hasLiveCable 31 = .ok (.invokestatic 74, 3) := by decide +kernel
theorem dX0_hasLiveCable_34 : decode cX0_hasLiveCable 34 = .ok (.iload_n 1, 1) := by decide +kernel
theorem dX0_hasLiveCable_35 : decode cX0_hasLiveCable 35 = .ok (.if_icmp .eq 18, 3) := by decide +kernel
theorem dX0_hasLiveCable_38 : decode cX0_hasLiveCable 38 = .ok (.aload_n 0, 1) := by decide +kernel
theorem dX0_hasLiveCable_39 : decode cX0_hasLiveCable 39 = .ok (.getfield 31, 3) := by decide +kernel
theorem dX0_hasLiveCable_42 : decode cX0_hasLiveCable 42 = .ok (.iload_n 2, 1) := by decide +kernel
theorem dX0_hasLiveCable_43 : decode cX0_hasLiveCable 43 = .ok (.bipush 6, 2) := by decide +kernel
theorem dX0_hasLiveCable_45 : decode cX0_hasLiveCable 45 = .ok (.idiv, 1) := by decide +kernel
theorem dX0_hasLiveCable_46 : decode cX0_hasLiveCable 46 = .ok (.invokestatic 74, 3) := by decide +kernel
theorem dX0_hasLiveCable_49 : decode cX0_hasLiveCable 49 = .ok (.iload_n 2, 1) := by decide +kernel
theorem dX0_hasLiveCable_50 : decode cX0_hasLiveCable 50 = .ok (.if_icmp .ne 7, 3) := by decide +kernel
theorem dX0_hasLiveCable_53 : decode cX0_hasLiveCable 53 = .ok (.iconst 1, 1) := by decide +kernel
theorem dX0_hasLiveCable_54 : decode cX0_hasLiveCable 54 = .ok (.goto 4, 3) := by decide +kernel
theorem dX0_hasLiveCable_57 : decode cX0_hasLiveCable 57 = .ok (.iconst 0, 1) := by decide +kernel
theorem dX0_hasLiveCable_58 : decode cX0_hasLiveCable 58 = .ok (.ireturn, 1) := by decide +kernel
set_option maxRecDepth 20000 in
theorem ggX0_laneBeyond_X0_at : GoodIn wsX0_laneBeyond wsX0_at := goodIn_r _ [6] (by decide +kernel) (by decide +kernel)
set_option maxRecDepth 20000 in
theorem gX0_laneBeyond_X0_at : GoodIn wsX0_laneBeyond (va_wsS RX0 74 yX0_at wsX0_at) := goodIn_app (goodIn_of _ (by decide +kernel)) ggX0_laneBeyond_X0_at
set_option maxRecDepth 20000 in
theorem ggX0_laneBeyond_X0_isTagged : GoodIn wsX0_laneBeyond wsX0_isTagged := goodIn_r _ [10, 11, 3, 4, 5, 6, 12, 13, 14, 15, 16, 17, 18, 19, 20, 21, 22, 23, 24, 25, 26] (by decide +kernel) (by decide +kernel)
set_option maxRecDepth 20000 in
theorem gX0_laneBeyond_X0_isTagged : GoodIn wsX0_laneBeyond (wsV RX0 63 RX0 yX0_isTagged wsX0_isTagged) := goodIn_app (goodIn_of _ (by decide +kernel)) ggX0_laneBeyond_X0_isTagged
theorem dX0_laneBeyond_0 : decode cX0_laneBeyond 0 = .ok (.aload_n 0, 1) := by decide +kernel
theorem dX0_laneBeyond_1 : decode cX0_laneBeyond 1 = .ok (.getfield 16, 3) := by decide +kernel
theorem dX0_laneBeyond_4 : decode cX0_laneBeyond 4 = .ok (.iload_n 1, 1) := by decide +kernel
theorem dX0_laneBeyond_5 : decode cX0_laneBeyond 5 = .ok (.invokestatic 74, 3) := by decide +kernel
theorem dX0_laneBeyond_8 : decode cX0_laneBeyond 8 = .ok (.istore_n 3, 1) := by decide +kernel
theorem dX0_laneBeyond_9 : decode cX0_laneBeyond 9 = .ok (.aload_n 0, 1) := by decide +kernel
theorem dX0_laneBeyond_10 : decode cX0_laneBeyond 10 = .ok (.iload_n 1, 1) := by decide +kernel
theorem dX0_laneBeyond_11 : decode cX0_laneBeyond 11 = .ok (.iload_n 2, 1) := by decide +kernel
theorem dX0_laneBeyond_12 : decode cX0_laneBeyond 12 = .ok (.invokevirtual 63, 3) := by decide +kernel
theorem dX0_laneBeyond_15 : decode cX0_laneBeyond 15 = .ok (.ifCond .eq 18, 3) := by decide +kernel
theorem dX0_laneBeyond_18 : decode cX0_laneBeyond 18 = .ok (.aload_n 0, 1) := by decide +kernel
theorem dX0_laneBeyond_19 : decode cX0_laneBeyond 19 = .ok (.iload_n 3, 1) := by decide +kernel
theorem dX0_laneBeyond_20 : decode cX0_laneBeyond 20 = .ok (.iload_n 2, 1) := by decide +kernel
theorem dX0_laneBeyond_21 : decode cX0_laneBeyond 21 = .ok (.invokevirtual 63, 3) := by decide +kernel
theorem dX0_laneBeyond_24 : decode cX0_laneBeyond 24 = .ok (.ifCond .eq 7, 3) := by decide +kernel
theorem dX0_laneBeyond_27 : decode cX0_laneBeyond 27 = .ok (.iload_n 2, 1) := by decide +kernel
theorem dX0_laneBeyond_28 : decode cX0_laneBeyond 28 = .ok (.goto 4, 3) := by decide +kernel
theorem dX0_laneBeyond_31 : decode cX0_laneBeyond 31 = .ok (.iconst (-1), 1) := by decide +kernel
theorem dX0_laneBeyond_32 : decode cX0_laneBeyond 32 = .ok (.ireturn, 1) := by decide +kernel
theorem dX0_laneBeyond_33 : decode cX0_laneBeyond 33 = .ok (.aload_n 0, 1) := by decide +kernel
theorem dX0_laneBeyond_34 : decode cX0_laneBeyond 34 = .ok (.getfield 9, 3) := by decide +kernel
theorem dX0_laneBeyond_37 : decode cX0_laneBeyond 37 = .ok (.iload_n 3, 1) := by decide +kernel
theorem dX0_laneBeyond_38 : decode cX0_laneBeyond 38 = .ok (.invokestatic 74, 3) := by decide +kernel
theorem dX0_laneBeyond_41 : decode cX0_laneBeyond 41 = .ok (.istore 4, 2) := by decide +kernel
theorem dX0_laneBeyond_43 : decode cX0_laneBeyond 43 = .ok (.aload_n 0, 1) := by decide +kernel
theorem dX0_laneBeyond_44 : decode cX0_laneBeyond 44 = .ok (.getfield 9, 3) := by decide +kernel
theorem dX0_laneBeyond_47 : decode cX0_laneBeyond 47 = .ok (.iload_n 1, 1) := by decide +kernel
theorem dX0_laneBeyond_48 : decode cX0_laneBeyond 48 = .ok (.invokestatic 74, 3) := by decide +kernel
theorem dX0_laneBeyond_51 : decode cX0_laneBeyond 51 = .ok (.iload_n 2, 1) := by decide +kernel
theorem dX0_laneBeyond_52 : decode cX0_laneBeyond 52 = .ok (.if_icmp .ne 13, 3) := by decide +kernel
theorem dX0_laneBeyond_55 : decode cX0_laneBeyond 55 = .ok (.iload 4, 2) := by decide +kernel
theorem dX0_laneBeyond_57 : decode cX0_laneBeyond 57 = .ok (.ifCond .eq 8, 3) := by decide +kernel
theorem dX0_laneBeyond_60 : decode cX0_laneBeyond 60 = .ok (.iload 4, 2) := by decide +kernel
theorem dX0_laneBeyond_62 : decode cX0_laneBeyond 62 = .ok (.goto 4, 3) := by decide +kernel
theorem dX0_laneBeyond_65 : decode cX0_laneBeyond 65 = .ok (.iconst (-1), 1) := by decide +kernel
theorem dX0_laneBeyond_66 : decode cX0_laneBeyond 66 = .ok (.ireturn, 1) := by decide +kernel
set_option maxRecDepth 20000 in
theorem ggX0_growTree_X0_findRoots : GoodIn wsX0_growTree wsX0_findRoots := goodIn_r _ [6, 7, 8, 9, 10, 5, 11, 12, 13, 14, 15, 16, 17, 18, 19, 20, 21, 22, 23, 24, 25, 26, 27, 38, 39, 40, 41, 42, 43, 44, 45, 46, 47, 48, 49, 50, 51, 52] (by decide +kernel) (by decide +kernel)
set_option maxRecDepth 20000 in
theorem gX0_growTree_X0_findRoots : GoodIn wsX0_growTree (wsV RX0 177 RX0 yX0_findRoots wsX0_findRoots) := goodIn_app (goodIn_of _ (by decide +kernel)) ggX0_growTree_X0_findRoots
set_option maxRecDepth 20000 in
theorem ggX0_growTree_X0_findCosts : GoodIn wsX0_growTree wsX0_findCosts := goodIn_r _ [31, 32, 7, 33, 25, 26, 5, 27, 9, 10, 11, 16, 17, 18, 19, 20, 21, 22, 23, 24, 38, 39, 40, 41, 42, 43, 44, 45, 46, 47, 48, 49, 50, 51, 52] (by decide +kernel) (by decide +kernel)
set_option maxRecDepth 20000 in
theorem gX0_growTree_X0_findCosts : GoodIn wsX0_growTree (wsV RX0 180 RX0 yX0_findCosts wsX0_findCosts) := goodIn_app (goodIn_of _ (by decide +kernel)) ggX0_growTree_X0_findCosts
set_option maxRecDepth 20000 in
theorem ggX0_growTree_X0_bestWayUp : GoodIn wsX0_growTree wsX0_bestWayUp := goodIn_r _ [37, 24, 33, 32, 25, 26, 5, 27, 38, 39, 40, 41, 42, 43, 44, 45, 46, 47, 48, 49, 50, 51, 52] (by decide +kernel) (by decide +kernel)
set_option maxRecDepth 20000 in
theorem gX0_growTree_X0_bestWayUp : GoodIn wsX0_growTree (wsV RX0 183 RX0 yX0_bestWayUp wsX0_bestWayUp) := goodIn_app (goodIn_of _ (by decide +kernel)) ggX0_growTree_X0_bestWayUp
set_option maxRecDepth 20000 in
theorem ggX0_growTree_X0_put : GoodIn wsX0_growTree wsX0_put := goodIn_r _ [11] (by decide +kernel) (by decide +kernel)
set_option maxRecDepth 20000 in
theorem gX0_growTree_X0_put : GoodIn wsX0_growTree (va_wsS RX0 78 yX0_put wsX0_put) := goodIn_app (goodIn_of _ (by decide +kernel)) ggX0_growTree_X0_put
theorem dX0_growTree_0 : decode cX0_growTree 0 = .ok (.aload_n 0, 1) := by decide +kernel
theorem dX0_growTree_1 : decode cX0_growTree 1 = .ok (.invokevirtual 177, 3) := by decide +kernel
theorem dX0_growTree_4 : decode cX0_growTree 4 = .ok (.aload_n 0, 1) := by decide +kernel
theorem dX0_growTree_5 : decode cX0_growTree 5 = .ok (.invokevirtual 180, 3) := by decide +kernel
theorem dX0_growTree_8 : decode cX0_growTree 8 = .ok (.iconst 0, 1) := by decide +kernel
theorem dX0_growTree_9 : decode cX0_growTree 9 = .ok (.istore_n 1, 1) := by decide +kernel
theorem dX0_growTree_10 : decode cX0_growTree 10 = .ok (.iload_n 1, 1) := by decide +kernel
theorem dX0_growTree_11 : decode cX0_growTree 11 = .ok (.bipush 6, 2) := by decide +kernel
theorem dX0_growTree_13 : decode cX0_growTree 13 = .ok (.if_icmp .ge 22, 3) := by decide +kernel
theorem dX0_growTree_16 : decode cX0_growTree 16 = .ok (.aload_n 0, 1) := by decide +kernel
theorem dX0_growTree_17 : decode cX0_growTree 17 = .ok (.getfield 31, 3) := by decide +kernel
theorem dX0_growTree_20 : decode cX0_growTree 20 = .ok (.iload_n 1, 1) := by decide +kernel
theorem dX0_growTree_21 : decode cX0_growTree 21 = .ok (.aload_n 0, 1) := by decide +kernel
theorem dX0_growTree_22 : decode cX0_growTree 22 = .ok (.iload_n 1, 1) := by decide +kernel
theorem dX0_growTree_23 : decode cX0_growTree 23 = .ok (.invokevirtual 183, 3) := by decide +kernel
theorem dX0_growTree_26 : decode cX0_growTree 26 = .ok (.invokestatic 78, 3) := by decide +kernel
theorem dX0_growTree_29 : decode cX0_growTree 29 = .ok (.iinc 1 1, 3) := by decide +kernel
theorem dX0_growTree_32 : decode cX0_growTree 32 = .ok (.goto (-22), 3) := by decide +kernel
theorem dX0_growTree_35 : decode cX0_growTree 35 = .ok (.return_, 1) := by decide +kernel
set_option maxRecDepth 20000 in
theorem ggX0_findRoots_X0_put : GoodIn wsX0_findRoots wsX0_put := goodIn_r _ [6] (by decide +kernel) (by decide +kernel)
set_option maxRecDepth 20000 in
theorem gX0_findRoots_X0_put : GoodIn wsX0_findRoots (va_wsS RX0 78 yX0_put wsX0_put) := goodIn_app (goodIn_of _ (by decide +kernel)) ggX0_findRoots_X0_put
set_option maxRecDepth 20000 in
theorem ggX0_findRoots_J7_fill_53178 : GoodIn wsX0_findRoots wsJ7_fill_53178 := goodIn_r _ [10] (by decide +kernel) (by decide +kernel)
set_option maxRecDepth 20000 in
theorem gX0_findRoots_J7_fill_53178 : GoodIn wsX0_findRoots (va_wsS RX0 46 yJ7_fill_53178 wsJ7_fill_53178) := goodIn_app (goodIn_of _ (by decide +kernel)) ggX0_findRoots_J7_fill_53178
set_option maxRecDepth 20000 in
theorem ggX0_findRoots_X0_leastSums : GoodIn wsX0_findRoots wsX0_leastSums := goodIn_r _ [14, 15, 16, 17, 5, 18, 19, 20, 21, 22, 3, 4, 6, 23, 24, 25, 26, 27, 28, 29, 30, 31, 32, 33, 34, 35, 36, 37] (by decide +kernel) (by decide +kernel)
set_option maxRecDepth 20000 in
theorem gX0_findRoots_X0_leastSums : GoodIn wsX0_findRoots (wsV RX0 162 RX0 yX0_leastSums wsX0_leastSums) := goodIn_app (goodIn_of _ (by decide +kernel)) ggX0_findRoots_X0_leastSums
theorem dX0_findRoots_0 : decode cX0_findRoots 0 = .ok (.iconst 0, 1) := by decide +kernel
theorem dX0_findRoots_1 : decode cX0_findRoots 1 = .ok (.istore_n 1, 1) := by decide +kernel
theorem dX0_findRoots_2 : decode cX0_findRoots 2 = .ok (.iload_n 1, 1) := by decide +kernel
theorem dX0_findRoots_3 : decode cX0_findRoots 3 = .ok (.bipush 6, 2) := by decide +kernel
theorem dX0_findRoots_5 : decode cX0_findRoots 5 = .ok (.if_icmp .ge 18, 3) := by decide +kernel
theorem dX0_findRoots_8 : decode cX0_findRoots 8 = .ok (.aload_n 0, 1) := by decide +kernel
theorem dX0_findRoots_9 : decode cX0_findRoots 9 = .ok (.getfield 25, 3) := by decide +kernel
theorem dX0_findRoots_12 : decode cX0_findRoots 12 = .ok (.iload_n 1, 1) := by decide +kernel
theorem dX0_findRoots_13 : decode cX0_findRoots 13 = .ok (.iload_n 1, 1) := by decide +kernel
theorem dX0_findRoots_14 : decode cX0_findRoots 14 = .ok (.invokestatic 78, 3) := by decide +kernel
theorem dX0_findRoots_17 : decode cX0_findRoots 17 = .ok (.iinc 1 1, 3) := by decide +kernel
theorem dX0_findRoots_20 : decode cX0_findRoots 20 = .ok (.goto (-18), 3) := by decide +kernel
theorem dX0_findRoots_23 : decode cX0_findRoots 23 = .ok (.aload_n 0, 1) := by decide +kernel
theorem dX0_findRoots_24 : decode cX0_findRoots 24 = .ok (.getfield 40, 3) := by decide +kernel
theorem dX0_findRoots_27 : decode cX0_findRoots 27 = .ok (.iconst 0, 1) := by decide +kernel
theorem dX0_findRoots_28 : decode cX0_findRoots 28 = .ok (.invokestatic 46, 3) := by decide +kernel
theorem dX0_findRoots_31 : decode cX0_findRoots 31 = .ok (.aload_n 0, 1) := by decide +kernel
theorem dX0_findRoots_32 : decode cX0_findRoots 32 = .ok (.aload_n 0, 1) := by decide +kernel
theorem dX0_findRoots_33 : decode cX0_findRoots 33 = .ok (.getfield 25, 3) := by decide +kernel
theorem dX0_findRoots_36 : decode cX0_findRoots 36 = .ok (.aload_n 0, 1) := by decide +kernel
theorem dX0_findRoots_37 : decode cX0_findRoots 37 = .ok (.getfield 40, 3) := by decide +kernel
theorem dX0_findRoots_40 : decode cX0_findRoots 40 = .ok (.invokevirtual 162, 3) := by decide +kernel
theorem dX0_findRoots_43 : decode cX0_findRoots 43 = .ok (.return_, 1) := by decide +kernel
set_option maxRecDepth 20000 in
theorem ggX0_findCosts_X0_at : GoodIn wsX0_findCosts wsX0_at := goodIn_r _ [7] (by decide +kernel) (by decide +kernel)
set_option maxRecDepth 20000 in
theorem gX0_findCosts_X0_at : GoodIn wsX0_findCosts (va_wsS RX0 74 yX0_at wsX0_at) := goodIn_app (goodIn_of _ (by decide +kernel)) ggX0_findCosts_X0_at
set_option maxRecDepth 20000 in
theorem ggX0_findCosts_X0_put : GoodIn wsX0_findCosts wsX0_put := goodIn_r _ [10] (by decide +kernel) (by decide +kernel)
set_option maxRecDepth 20000 in
theorem gX0_findCosts_X0_put : GoodIn wsX0_findCosts (va_wsS RX0 78 yX0_put wsX0_put) := goodIn_app (goodIn_of _ (by decide +kernel)) ggX0_findCosts_X0_put
set_option maxRecDepth 20000 in
theorem ggX0_findCosts_X0_leastSums : GoodIn wsX0_findCosts wsX0_leastSums := goodIn_r _ [14, 15, 16, 17, 6, 18, 19, 4, 5, 7, 8, 9, 10, 20, 21, 22, 23, 24, 25, 26, 27, 28, 29, 30, 31, 32, 33, 34] (by decide +kernel) (by decide +kernel)
set_option maxRecDepth 20000 in
theorem gX0_findCosts_X0_leastSums : GoodIn wsX0_findCosts (wsV RX0 162 RX0 yX0_leastSums wsX0_leastSums) := goodIn_app (goodIn_of _ (by decide +kernel)) ggX0_findCosts_X0_leastSums
theorem dX0_findCosts_0 : decode cX0_findCosts 0 = .ok (.iconst 0, 1) := by decide +kernel
theorem dX0_findCosts_1 : decode cX0_findCosts 1 = .ok (.istore_n 1, 1) := by decide +kernel
theorem dX0_findCosts_2 : decode cX0_findCosts 2 = .ok (.iload_n 1, 1) := by decide +kernel
theorem dX0_findCosts_3 : decode cX0_findCosts 3 = .ok (.bipush 6, 2) := by decide +kernel
theorem dX0_findCosts_5 : decode cX0_findCosts 5 = .ok (.if_icmp .ge 36, 3) := by decide +kernel
theorem dX0_findCosts_8 : decode cX0_findCosts 8 = .ok (.aload_n 0, 1) := by decide +kernel
theorem dX0_findCosts_9 : decode cX0_findCosts 9 = .ok (.getfield 28, 3) := by decide +kernel
theorem dX0_findCosts_12 : decode cX0_findCosts 12 = .ok (.iload_n 1, 1) := by decide +kernel
theorem dX0_findCosts_13 : decode cX0_findCosts 13 = .ok (.aload_n 0, 1) := by decide +kernel
theorem dX0_findCosts_14 : decode cX0_findCosts 14 = .ok (.getfield 25, 3) := by decide +kernel
theorem dX0_findCosts_17 : decode cX0_findCosts 17 = .ok (.iload_n 1, 1) := by decide +kernel
theorem dX0_findCosts_18 : decode cX0_findCosts 18 = .ok (.invokestatic 74, 3) := by decide +kernel
theorem dX0_findCosts_21 : decode cX0_findCosts 21 = .ok (.iload_n 1, 1) := by decide +kernel
theorem dX0_findCosts_22 : decode cX0_findCosts 22 = .ok (.if_icmp .ne 7, 3) := by decide +kernel
theorem dX0_findCosts_25 : decode cX0_findCosts 25 = .ok (.iconst 0, 1) := by decide +kernel
theorem dX0_findCosts_26 : decode cX0_findCosts 26 = .ok (.goto 6, 3) := by decide +kernel
theorem dX0_findCosts_29 : decode cX0_findCosts 29 = .ok (.sipush 1000, 3) := by decide +kernel
theorem dX0_findCosts_32 : decode cX0_findCosts 32 = .ok (.invokestatic 78, 3) := by decide +kernel
theorem dX0_findCosts_35 : decode cX0_findCosts 35 = .ok (.iinc 1 1, 3) := by decide +kernel
theorem dX0_findCosts_38 : decode cX0_findCosts 38 = .ok (.goto (-36), 3) := by decide +kernel
theorem dX0_findCosts_41 : decode cX0_findCosts 41 = .ok (.aload_n 0, 1) := by decide +kernel
theorem dX0_findCosts_42 : decode cX0_findCosts 42 = .ok (.aload_n 0, 1) := by decide +kernel
theorem dX0_findCosts_43 : decode cX0_findCosts 43 = .ok (.getfield 28, 3) := by decide +kernel
theorem dX0_findCosts_46 : decode cX0_findCosts 46 = .ok (.aload_n 0, 1) := by decide +kernel
theorem dX0_findCosts_47 : decode cX0_findCosts 47 = .ok (.getfield 19, 3) := by decide +kernel
theorem dX0_findCosts_50 : decode cX0_findCosts 50 = .ok (.invokevirtual 162, 3) := by decide +kernel
theorem dX0_findCosts_53 : decode cX0_findCosts 53 = .ok (.return_, 1) := by decide +kernel
set_option maxRecDepth 20000 in
theorem ggX0_bestWayUp_X0_at : GoodIn wsX0_bestWayUp wsX0_at := goodIn_r _ [7] (by decide +kernel) (by decide +kernel)
set_option maxRecDepth 20000 in
theorem gX0_bestWayUp_X0_at : GoodIn wsX0_bestWayUp (va_wsS RX0 74 yX0_at wsX0_at) := goodIn_app (goodIn_of _ (by decide +kernel)) ggX0_bestWayUp_X0_at
theorem dX0_bestWayUp_0 : decode cX0_bestWayUp 0 = .ok (.iconst (-1), 1) := by decide +kernel
theorem dX0_bestWayUp_1 : decode cX0_bestWayUp 1 = .ok (.istore_n 2, 1) := by decide +kernel
theorem dX0_bestWayUp_2 : decode cX0_bestWayUp 2 = .ok (.bipush 6, 2) := by decide +kernel
theorem dX0_bestWayUp_4 : decode cX0_bestWayUp 4 = .ok (.istore_n 3, 1) := by decide +kernel
theorem dX0_bestWayUp_5 : decode cX0_bestWayUp 5 = .ok (.iconst 0, 1) := by decide +kernel
theorem dX0_bestWayUp_6 : decode cX0_bestWayUp 6 = .ok (.istore 4, 2) := by decide +kernel
theorem dX0_bestWayUp_8 : decode cX0_bestWayUp 8 = .ok (.iload 4, 2) := by decide +kernel
theorem dX0_bestWayUp_10 : decode cX0_bestWayUp 10 = .ok (.bipush 6, 2) := by decide +kernel
theorem dX0_bestWayUp_12 : decode cX0_bestWayUp 12 = .ok (.if_icmp .ge 91, 3) := by decide +kernel
theorem dX0_bestWayUp_15 : decode cX0_bestWayUp 15 = .ok (.iload_n 1, 1) := by decide +kernel
theorem dX0_bestWayUp_16 : decode cX0_bestWayUp 16 = .ok (.bipush 6, 2) := by decide +kernel
theorem dX0_bestWayUp_18 : decode cX0_bestWayUp 18 = .ok (.imul, 1) := by decide +kernel
theorem dX0_bestWayUp_19 : decode cX0_bestWayUp 19 = .ok (.iload 4, 2) := by decide +kernel
theorem dX0_bestWayUp_21 : decode cX0_bestWayUp 21 = .ok (.iadd, 1) := by decide +kernel
theorem dX0_bestWayUp_22 : decode cX0_bestWayUp 22 = .ok (.istore 5, 2) := by decide +kernel
theorem dX0_bestWayUp_24 : decode cX0_bestWayUp 24 = .ok (.aload_n 0, 1) := by decide +kernel
theorem dX0_bestWayUp_25 : decode cX0_bestWayUp 25 = .ok (.getfield 16, 3) := by decide +kernel
theorem dX0_bestWayUp_28 : decode cX0_bestWayUp 28 = .ok (.iload 5, 2) := by decide +kernel
theorem dX0_bestWayUp_30 : decode cX0_bestWayUp 30 = .ok (.invokestatic 74, 3) := by decide +kernel
theorem dX0_bestWayUp_33 : decode cX0_bestWayUp 33 = .ok (.istore 6, 2) := by decide +kernel
theorem dX0_bestWayUp_35 : decode cX0_bestWayUp 35 = .ok (.iload 6, 2) := by decide +kernel
theorem dX0_bestWayUp_37 : decode cX0_bestWayUp 37 = .ok (.iconst (-1), 1) := by decide +kernel
theorem dX0_bestWayUp_38 : decode cX0_bestWayUp 38 = .ok (.if_icmp .ne 6, 3) := by decide +kernel
theorem dX0_bestWayUp_41 : decode cX0_bestWayUp 41 = .ok (.goto 56, 3) := by decide +kernel
theorem dX0_bestWayUp_44 : decode cX0_bestWayUp 44 = .ok (.iload 6, 2) := by decide +kernel
theorem dX0_bestWayUp_46 : decode cX0_bestWayUp 46 = .ok (.bipush 6, 2) := by decide +kernel
theorem dX0_bestWayUp_48 : decode cX0_bestWayUp 48 = .ok (.idiv, 1) := by decide +kernel
theorem dX0_bestWayUp_49 : decode cX0_bestWayUp 49 = .ok (.istore 7, 2) := by decide +kernel
theorem dX0_bestWayUp_51 : decode cX0_bestWayUp 51 = .ok (.aload_n 0, 1) := by decide +kernel
theorem dX0_bestWayUp_52 : decode cX0_bestWayUp 52 = .ok (.getfield 19, 3) := by decide +kernel
theorem dX0_bestWayUp_55 : decode cX0_bestWayUp 55 = .ok (.iload 5, 2) := by decide +kernel
theorem dX0_bestWayUp_57 : decode cX0_bestWayUp 57 = .ok (.invokestatic 74, 3) := by decide +kernel
theorem dX0_bestWayUp_60 : decode cX0_bestWayUp 60 = .ok (.aload_n 0, 1) := by decide +kernel
theorem dX0_bestWayUp_61 : decode cX0_bestWayUp 61 = .ok (.getfield 28, 3) := by decide +kernel
theorem dX0_bestWayUp_64 : decode cX0_bestWayUp 64 = .ok (.iload 7, 2) := by decide +kernel
theorem dX0_bestWayUp_66 : decode cX0_bestWayUp 66 = .ok (.invokestatic 74, 3) := by decide +kernel
theorem dX0_bestWayUp_69 : decode cX0_bestWayUp 69 = .ok (.iadd, 1) := by decide +kernel
theorem dX0_bestWayUp_70 : decode cX0_bestWayUp 70 = .ok (.istore 8, 2) := by decide +kernel
theorem dX0_bestWayUp_72 : decode cX0_bestWayUp 72 = .ok (.iload 8, 2) := by decide +kernel
theorem dX0_bestWayUp_74 : decode cX0_bestWayUp 74 = .ok (.aload_n 0, 1) := by decide +kernel
theorem dX0_bestWayUp_75 : decode cX0_bestWayUp 75 = .ok (.getfield 28, 3) := by decide +kernel
theorem dX0_bestWayUp_78 : decode cX0_bestWayUp 78 = .ok (.iload_n 1, 1) := by decide +kernel
theorem dX0_bestWayUp_79 : decode cX0_bestWayUp 79 = .ok (.invokestatic 74, 3) := by decide +kernel
theorem dX0_bestWayUp_82 : decode cX0_bestWayUp 82 = .ok (.if_icmp .ne 15, 3) := by decide +kernel
theorem dX0_bestWayUp_85 : decode cX0_bestWayUp 85 = .ok (.iload 7, 2) := by decide +kernel
theorem dX0_bestWayUp_87 : decode cX0_bestWayUp 87 = .ok (.iload_n 3, 1) := by decide +kernel
theorem dX0_bestWayUp_88 : decode cX0_bestWayUp 88 = .ok (.if_icmp .ge 9, 3) := by decide +kernel
theorem dX0_bestWayUp_91 : decode cX0_bestWayUp 91 = .ok (.iload 5, 2) := by decide +kernel
theorem dX0_bestWayUp_93 : decode cX0_bestWayUp 93 = .ok (.istore_n 2, 1) := by decide +kernel
theorem dX0_bestWayUp_94 : decode cX0_bestWayUp 94 = .ok (.iload 7, 2) := by decide +kernel
theorem dX0_bestWayUp_96 : decode cX0_bestWayUp 96 = .ok (.istore_n 3, 1) := by decide +kernel
theorem dX0_bestWayUp_97 : decode cX0_bestWayUp 97 = .ok (.iinc 4 1, 3) := by decide +kernel
theorem dX0_bestWayUp_100 : decode cX0_bestWayUp 100 = .ok (.goto (-92), 3) := by decide +kernel
theorem dX0_bestWayUp_103 : decode cX0_bestWayUp 103 = .ok (.iload_n 2, 1) := by decide +kernel
theorem dX0_bestWayUp_104 : decode cX0_bestWayUp 104 = .ok (.ireturn, 1) := by decide +kernel
set_option maxRecDepth 20000 in
theorem ggX0_leastSums_X0_lowerSum : GoodIn wsX0_leastSums wsX0_lowerSum := goodIn_r _ [5, 6, 7, 8, 4, 9, 10, 11, 12, 13, 14, 15, 16, 17, 18, 19, 20, 21, 22, 23, 24, 25, 26, 27] (by decide +kernel) (by decide +kernel)
set_option maxRecDepth 20000 in
theorem gX0_leastSums_X0_lowerSum : GoodIn wsX0_leastSums (wsV RX0 186 RX0 yX0_lowerSum wsX0_lowerSum) := goodIn_app (goodIn_of _ (by decide +kernel)) ggX0_leastSums_X0_lowerSum
theorem dX0_leastSums_0 : decode cX0_leastSums 0 = .ok (.iconst 1, 1) := by decide +kernel
theorem dX0_leastSums_1 : decode cX0_leastSums 1 = .ok (.istore_n 3, 1) := by decide +kernel
theorem dX0_leastSums_2 : decode cX0_leastSums 2 = .ok (.iload_n 3, 1) := by decide +kernel
theorem dX0_leastSums_3 : decode cX0_leastSums 3 = .ok (.bipush 6, 2) := by decide +kernel
theorem dX0_leastSums_5 : decode cX0_leastSums 5 = .ok (.if_icmp .ge 33, 3) := by decide +kernel
theorem dX0_leastSums_8 : decode cX0_leastSums 8 = .ok (.iconst 0, 1) := by decide +kernel
theorem dX0_leastSums_9 : decode cX0_leastSums 9 = .ok (.istore 4, 2) := by decide +kernel
theorem dX0_leastSums_11 : decode cX0_leastSums 11 = .ok (.iload 4, 2) := by decide +kernel
theorem dX0_leastSums_13 : decode cX0_leastSums 13 = .ok (.bipush 36, 2) := by decide +kernel
theorem dX0_leastSums_15 : decode cX0_leastSums 15 = .ok (.if_icmp .ge 17, 3) := by decide +kernel
theorem dX0_leastSums_18 : decode cX0_leastSums 18 = .ok (.aload_n 0, 1) := by decide +kernel
theorem dX0_leastSums_19 : decode cX0_leastSums 19 = .ok (.aload_n 1, 1) := by decide +kernel
theorem dX0_leastSums_20 : decode cX0_leastSums 20 = .ok (.aload_n 2, 1) := by decide +kernel
theorem dX0_leastSums_21 : decode cX0_leastSums 21 = .ok (.iload 4, 2) := by decide +kernel
theorem dX0_leastSums_23 : decode cX0_leastSums 23 = .ok (.invokevirtual 186, 3) := by decide +kernel
theorem dX0_leastSums_26 : decode cX0_leastSums 26 = .ok (.iinc 4 1, 3) := by decide +kernel
theorem dX0_leastSums_29 : decode cX0_leastSums 29 = .ok (.goto (-18), 3) := by decide +kernel
theorem dX0_leastSums_32 : decode cX0_leastSums 32 = .ok (.iinc 3 1, 3) := by decide +kernel
theorem dX0_leastSums_35 : decode cX0_leastSums 35 = .ok (.goto (-33), 3) := by decide +kernel
theorem dX0_leastSums_38 : decode cX0_leastSums 38 = .ok (.return_, 1) := by decide +kernel
set_option maxRecDepth 20000 in
theorem ggX0_lowerSum_X0_at : GoodIn wsX0_lowerSum wsX0_at := goodIn_r _ [5] (by decide +kernel) (by decide +kernel)
set_option maxRecDepth 20000 in
theorem gX0_lowerSum_X0_at : GoodIn wsX0_lowerSum (va_wsS RX0 74 yX0_at wsX0_at) := goodIn_app (goodIn_of _ (by decide +kernel)) ggX0_lowerSum_X0_at
set_option maxRecDepth 20000 in
theorem ggX0_lowerSum_X0_put : GoodIn wsX0_lowerSum wsX0_put := goodIn_r _ [8] (by decide +kernel) (by decide +kernel)
set_option maxRecDepth 20000 in
theorem gX0_lowerSum_X0_put : GoodIn wsX0_lowerSum (va_wsS RX0 78 yX0_put wsX0_put) := goodIn_app (goodIn_of _ (by decide +kernel)) ggX0_lowerSum_X0_put
theorem dX0_lowerSum_0 : decode cX0_lowerSum 0 = .ok (.aload_n 0, 1) := by decide +kernel
theorem dX0_lowerSum_1 : decode cX0_lowerSum 1 = .ok (.getfield 16, 3) := by decide +kernel
theorem dX0_lowerSum_4 : decode cX0_lowerSum 4 = .ok (.iload_n 3, 1) := by decide +kernel
theorem dX0_lowerSum_5 : decode cX0_lowerSum 5 = .ok (.invokestatic 74, 3) := by decide +kernel
theorem dX0_lowerSum_8 : decode cX0_lowerSum 8 = .ok (.istore 4, 2) := by decide +kernel
theorem dX0_lowerSum_10 : decode cX0_lowerSum 10 = .ok (.aload_n 2, 1) := by decide +kernel
theorem dX0_lowerSum_11 : decode cX0_lowerSum 11 = .ok (.iload_n 3, 1) := by decide +kernel
theorem dX0_lowerSum_12 : decode cX0_lowerSum 12 = .ok (.invokestatic 74, 3) := by decide +kernel
theorem dX0_lowerSum_15 : decode cX0_lowerSum 15 = .ok (.istore 5, 2) := by decide +kernel
theorem dX0_lowerSum_17 : decode cX0_lowerSum 17 = .ok (.iload 4, 2) := by decide +kernel
theorem dX0_lowerSum_19 : decode cX0_lowerSum 19 = .ok (.iconst (-1), 1) := by decide +kernel
theorem dX0_lowerSum_20 : decode cX0_lowerSum 20 = .ok (.if_icmp .eq 9, 3) := by decide +kernel
theorem dX0_lowerSum_23 : decode cX0_lowerSum 23 = .ok (.iload 5, 2) := by decide +kernel
theorem dX0_lowerSum_25 : decode cX0_lowerSum 25 = .ok (.iconst (-1), 1) := by decide +kernel
theorem dX0_lowerSum_26 : decode cX0_lowerSum 26 = .ok (.if_icmp .ne 4, 3) := by decide +kernel
theorem dX0_lowerSum_29 : decode cX0_lowerSum 29 = .ok (.return_, 1) := by decide +kernel
theorem dX0_lowerSum_30 : decode cX0_lowerSum 30 = .ok (.aload_n 1, 1) := by decide +kernel
theorem dX0_lowerSum_31 : decode cX0_lowerSum 31 = .ok (.iload_n 3, 1) := by decide +kernel
theorem dX0_lowerSum_32 : decode cX0_lowerSum 32 = .ok (.bipush 6, 2) := by decide +kernel
theorem dX0_lowerSum_34 : decode cX0_lowerSum 34 = .ok (.idiv, 1) := by decide +kernel
theorem dX0_lowerSum_35 : decode cX0_lowerSum 35 = .ok (.invokestatic 74, 3) := by decide +kernel
theorem dX0_lowerSum_38 : decode cX0_lowerSum 38 = .ok (.iload 5, 2) := by decide +kernel
theorem dX0_lowerSum_40 : decode cX0_lowerSum 40 = .ok (.iadd, 1) := by decide +kernel
theorem dX0_lowerSum_41 : decode cX0_lowerSum 41 = .ok (.istore 6, 2) := by decide +kernel
theorem dX0_lowerSum_43 : decode cX0_lowerSum 43 = .ok (.iload 6, 2) := by decide +kernel
theorem dX0_lowerSum_45 : decode cX0_lowerSum 45 = .ok (.aload_n 1, 1) := by decide +kernel
theorem dX0_lowerSum_46 : decode cX0_lowerSum 46 = .ok (.iload 4, 2) := by decide +kernel
theorem dX0_lowerSum_48 : decode cX0_lowerSum 48 = .ok (.bipush 6, 2) := by decide +kernel
theorem dX0_lowerSum_50 : decode cX0_lowerSum 50 = .ok (.idiv, 1) := by decide +kernel
theorem dX0_lowerSum_51 : decode cX0_lowerSum 51 = .ok (.invokestatic 74, 3) := by decide +kernel
theorem dX0_lowerSum_54 : decode cX0_lowerSum 54 = .ok (.if_icmp .ge 14, 3) := by decide +kernel
theorem dX0_lowerSum_57 : decode cX0_lowerSum 57 = .ok (.aload_n 1, 1) := by decide +kernel
theorem dX0_lowerSum_58 : decode cX0_lowerSum 58 = .ok (.iload 4, 2) := by decide +kernel
theorem dX0_lowerSum_60 : decode cX0_lowerSum 60 = .ok (.bipush 6, 2) := by decide +kernel
theorem dX0_lowerSum_62 : decode cX0_lowerSum 62 = .ok (.idiv, 1) := by decide +kernel
theorem dX0_lowerSum_63 : decode cX0_lowerSum 63 = .ok (.iload 6, 2) := by decide +kernel
theorem dX0_lowerSum_65 : decode cX0_lowerSum 65 = .ok (.invokestatic 78, 3) := by decide +kernel
theorem dX0_lowerSum_68 : decode cX0_lowerSum 68 = .ok (.return_, 1) := by decide +kernel
set_option maxRecDepth 20000 in
theorem ggX0_forgetWalks_J7_fill_53178 : GoodIn wsX0_forgetWalks wsJ7_fill_53178 := goodIn_r _ [6] (by decide +kernel) (by decide +kernel)
set_option maxRecDepth 20000 in
theorem gX0_forgetWalks_J7_fill_53178 : GoodIn wsX0_forgetWalks (va_wsS RX0 46 yJ7_fill_53178 wsJ7_fill_53178) := goodIn_app (goodIn_of _ (by decide +kernel)) ggX0_forgetWalks_J7_fill_53178
theorem dX0_forgetWalks_0 : decode cX0_forgetWalks 0 = .ok (.aload_n 0, 1) := by decide +kernel
theorem dX0_forgetWalks_1 : decode cX0_forgetWalks 1 = .ok (.getfield 34, 3) := by decide +kernel
theorem dX0_forgetWalks_4 : decode cX0_forgetWalks 4 = .ok (.iconst (-1), 1) := by decide +kernel
theorem dX0_forgetWalks_5 : decode cX0_forgetWalks 5 = .ok (.invokestatic 46, 3) := by decide +kernel
theorem dX0_forgetWalks_8 : decode cX0_forgetWalks 8 = .ok (.aload_n 0, 1) := by decide +kernel
theorem dX0_forgetWalks_9 : decode cX0_forgetWalks 9 = .ok (.iconst 0, 1) := by decide +kernel
theorem dX0_forgetWalks_10 : decode cX0_forgetWalks 10 = .ok (.putfield 143, 3) := by decide +kernel
theorem dX0_forgetWalks_13 : decode cX0_forgetWalks 13 = .ok (.return_, 1) := by decide +kernel
set_option maxRecDepth 20000 in
theorem ggX0_walkFrom_X0_reach : GoodIn wsX0_walkFrom wsX0_reach := goodIn_r _ [7, 8, 2, 1, 9, 10, 6, 11, 40, 41, 42, 43, 44, 45, 46, 47, 48, 49, 50, 51, 52, 53, 54] (by decide +kernel) (by decide +kernel)
set_option maxRecDepth 20000 in
theorem gX0_walkFrom_X0_reach : GoodIn wsX0_walkFrom (wsV RX0 190 RX0 yX0_reach wsX0_reach) := goodIn_app (goodIn_of _ (by decide +kernel)) ggX0_walkFrom_X0_reach
set_option maxRecDepth 20000 in
theorem ggX0_walkFrom_X0_at : GoodIn wsX0_walkFrom wsX0_at := goodIn_r _ [14] (by decide +kernel) (by decide +kernel)
set_option maxRecDepth 20000 in
theorem gX0_walkFrom_X0_at : GoodIn wsX0_walkFrom (va_wsS RX0 74 yX0_at wsX0_at) := goodIn_app (goodIn_of _ (by decide +kernel)) ggX0_walkFrom_X0_at
set_option maxRecDepth 20000 in
theorem ggX0_walkFrom_X0_reachNeighbours : GoodIn wsX0_walkFrom wsX0_reachNeighbours := goodIn_r _ [18, 8, 19, 20, 21, 6, 22, 23, 24, 25, 26, 27, 28, 29, 12, 13, 14, 30, 31, 32, 33, 34, 35, 36, 37, 38, 39, 3, 4, 5, 7, 2, 1, 9, 10, 11, 40, 41, 42, 43, 44, 45, 46, 47, 48, 49, 50, 51, 52, 53, 54] (by decide +kernel) (by decide +kernel)
set_option maxRecDepth 20000 in
theorem gX0_walkFrom_X0_reachNeighbours : GoodIn wsX0_walkFrom (wsV RX0 194 RX0 yX0_reachNeighbours wsX0_reachNeighbours) := goodIn_app (goodIn_of _ (by decide +kernel)) ggX0_walkFrom_X0_reachNeighbours
theorem dX0_walkFrom_0 : decode cX0_walkFrom 0 = .ok (.aload_n 0, 1) := by decide +kernel
theorem dX0_walkFrom_1 : decode cX0_walkFrom 1 = .ok (.getfield 143, 3) := by decide +kernel
theorem dX0_walkFrom_4 : decode cX0_walkFrom 4 = .ok (.istore_n 2, 1) := by decide +kernel
theorem dX0_walkFrom_5 : decode cX0_walkFrom 5 = .ok (.aload_n 0, 1) := by decide +kernel
theorem dX0_walkFrom_6 : decode cX0_walkFrom 6 = .ok (.iload_n 1, 1) := by decide +kernel
theorem dX0_walkFrom_7 : decode cX0_walkFrom 7 = .ok (.iconst 0, 1) := by decide +kernel
theorem dX0_walkFrom_8 : decode cX0_walkFrom 8 = .ok (.invokevirtual 190, 3) := by decide +kernel
theorem dX0_walkFrom_11 : decode cX0_walkFrom 11 = .ok (.iload_n 2, 1) := by decide +kernel
theorem dX0_walkFrom_12 : decode cX0_walkFrom 12 = .ok (.istore_n 3, 1) := by decide +kernel
theorem dX0_walkFrom_13 : decode cX0_walkFrom 13 = .ok (.iload_n 3, 1) := by decide +kernel
theorem dX0_walkFrom_14 : decode cX0_walkFrom 14 = .ok (.aload_n 0, 1) := by decide +kernel
theorem dX0_walkFrom_15 : decode cX0_walkFrom 15 = .ok (.getfield 143, 3) := by decide +kernel
theorem dX0_walkFrom_18 : decode cX0_walkFrom 18 = .ok (.if_icmp .ge 27, 3) := by decide +kernel
theorem dX0_walkFrom_21 : decode cX0_walkFrom 21 = .ok (.iload_n 3, 1) := by decide +kernel
theorem dX0_walkFrom_22 : decode cX0_walkFrom 22 = .ok (.bipush 96, 2) := by decide +kernel
theorem dX0_walkFrom_24 : decode cX0_walkFrom 24 = .ok (.if_icmp .ge 21, 3) := by decide +kernel
theorem dX0_walkFrom_27 : decode cX0_walkFrom 27 = .ok (.aload_n 0, 1) := by decide +kernel
theorem dX0_walkFrom_28 : decode cX0_walkFrom 28 = .ok (.aload_n 0, 1) := by decide +kernel
theorem dX0_walkFrom_29 : decode cX0_walkFrom 29 = .ok (.getfield 37, 3) := by decide +kernel
theorem dX0_walkFrom_32 : decode cX0_walkFrom 32 = .ok (.iload_n 3, 1) := by decide +kernel
theorem dX0_walkFrom_33 : decode cX0_walkFrom 33 = .ok (.invokestatic 74, 3) := by decide +kernel
theorem dX0_walkFrom_36 : decode cX0_walkFrom 36 = .ok (.invokevirtual 194, 3) := by decide +kernel
theorem dX0_walkFrom_39 : decode cX0_walkFrom 39 = .ok (.iinc 3 1, 3) := by decide +kernel
theorem dX0_walkFrom_42 : decode cX0_walkFrom 42 = .ok (.goto (-29), 3) := by decide +kernel
theorem dX0_walkFrom_45 : decode cX0_walkFrom 45 = .ok (.return_, 1) := by decide +kernel
set_option maxRecDepth 20000 in
theorem ggX0_reach_X0_put : GoodIn wsX0_reach wsX0_put := goodIn_r _ [7] (by decide +kernel) (by decide +kernel)
set_option maxRecDepth 20000 in
theorem gX0_reach_X0_put : GoodIn wsX0_reach (va_wsS RX0 78 yX0_put wsX0_put) := goodIn_app (goodIn_of _ (by decide +kernel)) ggX0_reach_X0_put
theorem dX0_reach_0 : decode cX0_reach 0 = .ok (.aload_n 0, 1) := by decide +kernel
theorem dX0_reach_1 : decode cX0_reach 1 = .ok (.getfield 34, 3) := by decide +kernel
theorem dX0_reach_4 : decode cX0_reach 4 = .ok (.iload_n 1, 1) := by decide +kernel
theorem dX0_reach_5 : decode cX0_reach 5 = .ok (.iload_n 2, 1) := by decide +kernel
theorem dX0_reach_6 : decode cX0_reach 6 = .ok (.invokestatic 78, 3) := by decide +kernel
theorem dX0_reach_9 : decode cX0_reach 9 = .ok (.aload_n 0, 1) := by decide +kernel
theorem dX0_reach_10 : decode cX0_reach 10 = .ok (.getfield 37, 3) := by decide +kernel
theorem dX0_reach_13 : decode cX0_reach 13 = .ok (.aload_n 0, 1) := by decide +kernel
theorem dX0_reach_14 : decode cX0_reach 14 = .ok (.getfield 143, 3) := by decide +kernel
theorem dX0_reach_17 : decode cX0_reach 17 = .ok (.iload_n 1, 1) := by decide +kernel
theorem dX0_reach_18 : decode cX0_reach 18 = .ok (.invokestatic 78, 3) := by decide +kernel
theorem dX0_reach_21 : decode cX0_reach 21 = .ok (.aload_n 0, 1) := by decide +kernel
theorem dX0_reach_22 : decode cX0_reach 22 = .ok (.dup, 1) := by decide +kernel
theorem dX0_reach_23 : decode cX0_reach 23 = .ok (.getfield 143, 3) := by decide +kernel
theorem dX0_reach_26 : decode cX0_reach 26 = .ok (.iconst 1, 1) := by decide +kernel
theorem dX0_reach_27 : decode cX0_reach 27 = .ok (.iadd, 1) := by decide +kernel
theorem dX0_reach_28 : decode cX0_reach 28 = .ok (.putfield 143, 3) := by decide +kernel
theorem dX0_reach_31 : decode cX0_reach 31 = .ok (.return_, 1) := by decide +kernel
set_option maxRecDepth 20000 in
theorem ggX0_reachNeighbours_X0_placeBeyond : GoodIn wsX0_reachNeighbours wsX0_placeBeyond := goodIn_r _ [6, 7, 8, 9, 10, 5, 11, 12, 13, 14, 15, 16, 17, 18, 19, 20, 21, 22, 23, 24, 25, 26, 36, 37, 38, 39, 40, 41, 42, 43, 44, 45, 46, 47, 48, 49, 50] (by decide +kernel) (by decide +kernel)
set_option maxRecDepth 20000 in
theorem gX0_reachNeighbours_X0_placeBeyond : GoodIn wsX0_reachNeighbours (wsV RX0 197 RX0 yX0_placeBeyond wsX0_placeBeyond) := goodIn_app (goodIn_of _ (by decide +kernel)) ggX0_reachNeighbours_X0_placeBeyond
set_option maxRecDepth 20000 in
theorem ggX0_reachNeighbours_X0_at : GoodIn wsX0_reachNeighbours wsX0_at := goodIn_r _ [16] (by decide +kernel) (by decide +kernel)
set_option maxRecDepth 20000 in
theorem gX0_reachNeighbours_X0_at : GoodIn wsX0_reachNeighbours (va_wsS RX0 74 yX0_at wsX0_at) := goodIn_app (goodIn_of _ (by decide +kernel)) ggX0_reachNeighbours_X0_at
set_option maxRecDepth 20000 in
theorem ggX0_reachNeighbours_X0_reach : GoodIn wsX0_reachNeighbours wsX0_reach := goodIn_r _ [30, 1, 31, 32, 33, 34, 5, 35, 36, 37, 38, 39, 40, 41, 42, 43, 44, 45, 46, 47, 48, 49, 50] (by decide +kernel) (by decide +kernel)
set_option maxRecDepth 20000 in
theorem gX0_reachNeighbours_X0_reach : GoodIn wsX0_reachNeighbours (wsV RX0 190 RX0 yX0_reach wsX0_reach) := goodIn_app (goodIn_of _ (by decide +kernel)) ggX0_reachNeighbours_X0_reach
theorem dX0_reachNeighbours_0 : decode cX0_reachNeighbours 0 = .ok (.iload_n 1, 1) := by decide +kernel
theorem dX0_reachNeighbours_1 : decode cX0_reachNeighbours 1 = .ok (.bipush 16, 2) := by decide +kernel
theorem dX0_reachNeighbours_3 : decode cX0_reachNeighbours 3 = .ok (.idiv, 1) := by decide +kernel
theorem dX0_reachNeighbours_4 : decode cX0_reachNeighbours 4 = .ok (.istore_n 2, 1) := by decide +kernel
theorem dX0_reachNeighbours_5 : decode cX0_reachNeighbours 5 = .ok (.iconst 0, 1) := by decide +kernel
theorem dX0_reachNeighbours_6 : decode cX0_reachNeighbours 6 = .ok (.istore_n 3, 1) := by decide +kernel
theorem dX0_reachNeighbours_7 : decode cX0_reachNeighbours 7 = .ok (.iload_n 3, 1) := by decide +kernel
theorem dX0_reachNeighbours_8 : decode cX0_reachNeighbours 8 = .ok (.bipush 6, 2) := by decide +kernel
theorem dX0_reachNeighbours_10 : decode cX0_reachNeighbours 10 = .ok (.if_icmp .ge 60, 3) := by decide +kernel
theorem dX0_reachNeighbours_13 : decode cX0_reachNeighbours 13 = .ok (.aload_n 0, 1) := by decide +kernel
theorem dX0_reachNeighbours_14 : decode cX0_reachNeighbours 14 = .ok (.iload_n 2, 1) := by decide +kernel
theorem dX0_reachNeighbours_15 : decode cX0_reachNeighbours 15 = .ok (.bipush 6, 2) := by decide +kernel
theorem dX0_reachNeighbours_17 : decode cX0_reachNeighbours 17 = .ok (.imul, 1) := by decide +kernel
theorem dX0_reachNeighbours_18 : decode cX0_reachNeighbours 18 = .ok (.iload_n 3, 1) := by decide +kernel
theorem dX0_reachNeighbours_19 : decode cX0_reachNeighbours 19 = .ok (.iadd, 1) := by decide +kernel
theorem dX0_reachNeighbours_20 : decode cX0_reachNeighbours 20 = .ok (.iload_n 1, 1) := by decide +kernel
theorem dX0_reachNeighbours_21 : decode cX0_reachNeighbours 21 = .ok (.bipush 16, 2) := by decide +kernel
theorem dX0_reachNeighbours_23 : decode cX0_reachNeighbours 23 = .ok (.irem, 1) := by decide +kernel
theorem dX0_reachNeighbours_24 : decode cX0_reachNeighbours 24 = .ok (.invokevirtual 197, 3) := by decide +kernel
theorem dX0_reachNeighbours_27 : decode cX0_reachNeighbours 27 = .ok (.istore 4, 2) := by decide +kernel
theorem dX0_reachNeighbours_29 : decode cX0_reachNeighbours 29 = .ok (.iload 4, 2) := by decide +kernel
theorem dX0_reachNeighbours_31 : decode cX0_reachNeighbours 31 = .ok (.iconst (-1), 1) := by decide +kernel
theorem dX0_reachNeighbours_32 : decode cX0_reachNeighbours 32 = .ok (.if_icmp .eq 32, 3) := by decide +kernel
theorem dX0_reachNeighbours_35 : decode cX0_reachNeighbours 35 = .ok (.aload_n 0, 1) := by decide +kernel
theorem dX0_reachNeighbours_36 : decode cX0_reachNeighbours 36 = .ok (.getfield 34, 3) := by decide +kernel
theorem dX0_reachNeighbours_39 : decode cX0_reachNeighbours 39 = .ok (.iload 4, 2) := by decide +kernel
theorem dX0_reachNeighbours_41 : decode cX0_reachNeighbours 41 = .ok (.invokestatic 74, 3) := by decide +kernel
theorem dX0_reachNeighbours_44 : decode cX0_reachNeighbours 44 = .ok (.iconst (-1), 1) := by decide +kernel
theorem dX0_reachNeighbours_45 : decode cX0_reachNeighbours 45 = .ok (.if_icmp .ne 19, 3) := by decide +kernel
theorem dX0_reachNeighbours_48 : decode cX0_reachNeighbours 48 = .ok (.aload_n 0, 1) := by decide +kernel
theorem dX0_reachNeighbours_49 : decode cX0_reachNeighbours 49 = .ok (.iload 4, 2) := by decide +kernel
theorem dX0_reachNeighbours_51 : decode cX0_reachNeighbours 51 = .ok (.aload_n 0, 1) := by decide +kernel
theorem dX0_reachNeighbours_52 : decode cX0_reachNeighbours 52 = .ok (.getfield 34, 3) := by decide +kernel
theorem dX0_reachNeighbours_55 : decode cX0_reachNeighbours 55 = .ok (.iload_n 1, 1) := by decide +kernel
theorem dX0_reachNeighbours_56 : decode cX0_reachNeighbours 56 = .ok (.invokestatic 74, 3) := by decide +kernel
theorem dX0_reachNeighbours_59 : decode cX0_reachNeighbours 59 = .ok (.iconst 1, 1) := by decide +kernel
theorem dX0_reachNeighbours_60 : decode cX0_reachNeighbours 60 = .ok (.iadd, 1) := by decide +kernel
theorem dX0_reachNeighbours_61 : decode cX0_reachNeighbours 61 = .ok (.invokevirtual 190, 3) := by decide +kernel
theorem dX0_reachNeighbours_64 : decode cX0_reachNeighbours 64 = .ok (.iinc 3 1, 3) := by decide +kernel
theorem dX0_reachNeighbours_67 : decode cX0_reachNeighbours 67 = .ok (.goto (-60), 3) := by decide +kernel
theorem dX0_reachNeighbours_70 : decode cX0_reachNeighbours 70 = .ok (.return_, 1) := by decide +kernel
set_option maxRecDepth 20000 in
theorem ggX0_placeBeyond_X0_hasLiveCable : GoodIn wsX0_placeBeyond wsX0_hasLiveCable := goodIn_r _ [6, 1, 7, 8, 9, 10, 5, 11, 22, 23, 24, 25, 26, 27, 28, 29, 30, 31, 32, 33, 34, 35, 36] (by decide +kernel) (by decide +kernel)
set_option maxRecDepth 20000 in
theorem gX0_placeBeyond_X0_hasLiveCable : GoodIn wsX0_placeBeyond (wsV RX0 116 RX0 yX0_hasLiveCable wsX0_hasLiveCable) := goodIn_app (goodIn_of _ (by decide +kernel)) ggX0_placeBeyond_X0_hasLiveCable
set_option maxRecDepth 20000 in
theorem ggX0_placeBeyond_X0_laneBeyond : GoodIn wsX0_placeBeyond wsX0_laneBeyond := goodIn_r _ [15, 1, 16, 9, 10, 5, 11, 17, 18, 19, 20, 21, 22, 23, 24, 25, 26, 27, 28, 29, 30, 31, 32, 33, 34, 35, 36] (by decide +kernel) (by decide +kernel)
set_option maxRecDepth 20000 in
theorem gX0_placeBeyond_X0_laneBeyond : GoodIn wsX0_placeBeyond (wsV RX0 119 RX0 yX0_laneBeyond wsX0_laneBeyond) := goodIn_app (goodIn_of _ (by decide +kernel)) ggX0_placeBeyond_X0_laneBeyond
set_option maxRecDepth 20000 in
theorem ggX0_placeBeyond_X0_at : GoodIn wsX0_placeBeyond wsX0_at := goodIn_r _ [11] (by decide +kernel) (by decide +kernel)
set_option maxRecDepth 20000 in
theorem gX0_placeBeyond_X0_at : GoodIn wsX0_placeBeyond (va_wsS RX0 74 yX0_at wsX0_at) := goodIn_app (goodIn_of _ (by decide +kernel)) ggX0_placeBeyond_X0_at
theorem dX0_placeBeyond_0 : decode cX0_placeBeyond 0 = .ok (.aload_n 0, 1) := by decide +kernel
theorem dX0_placeBeyond_1 : decode cX0_placeBeyond 1 = .ok (.iload_n 1, 1) := by decide +kernel
theorem dX0_placeBeyond_2 : decode cX0_placeBeyond 2 = .ok (.invokevirtual 116, 3) := by decide +kernel
theorem dX0_placeBeyond_5 : decode cX0_placeBeyond 5 = .ok (.ifCond .eq 12, 3) := by decide +kernel
theorem dX0_placeBeyond_8 : decode cX0_placeBeyond 8 = .ok (.aload_n 0, 1) := by decide +kernel
theorem dX0_placeBeyond_9 : decode cX0_placeBeyond 9 = .ok (.iload_n 1, 1) := by decide +kernel
theorem dX0_placeBeyond_10 : decode cX0_placeBeyond 10 = .ok (.iload_n 2, 1) := by decide +kernel
theorem dX0_placeBeyond_11 : decode cX0_placeBeyond 11 = .ok (.invokevirtual 119, 3) := by decide +kernel
theorem dX0_placeBeyond_14 : decode cX0_placeBeyond 14 = .ok (.goto 4, 3) := by decide +kernel
theorem dX0_placeBeyond_17 : decode cX0_placeBeyond 17 = .ok (.iconst (-1), 1) := by decide +kernel
theorem dX0_placeBeyond_18 : decode cX0_placeBeyond 18 = .ok (.istore_n 3, 1) := by decide +kernel
theorem dX0_placeBeyond_19 : decode cX0_placeBeyond 19 = .ok (.iload_n 3, 1) := by decide +kernel
theorem dX0_placeBeyond_20 : decode cX0_placeBeyond 20 = .ok (.iconst (-1), 1) := by decide +kernel
theorem dX0_placeBeyond_21 : decode cX0_placeBeyond 21 = .ok (.if_icmp .ne 5, 3) := by decide +kernel
theorem dX0_placeBeyond_24 : decode cX0_placeBeyond 24 = .ok (.iconst (-1), 1) := by decide +kernel
theorem dX0_placeBeyond_25 : decode cX0_placeBeyond 25 = .ok (.ireturn, 1) := by decide +kernel
theorem dX0_placeBeyond_26 : decode cX0_placeBeyond 26 = .ok (.aload_n 0, 1) := by decide +kernel
theorem dX0_placeBeyond_27 : decode cX0_placeBeyond 27 = .ok (.getfield 16, 3) := by decide +kernel
theorem dX0_placeBeyond_30 : decode cX0_placeBeyond 30 = .ok (.iload_n 1, 1) := by decide +kernel
theorem dX0_placeBeyond_31 : decode cX0_placeBeyond 31 = .ok (.invokestatic 74, 3) := by decide +kernel
theorem dX0_placeBeyond_34 : decode cX0_placeBeyond 34 = .ok (.bipush 6, 2) := by decide +kernel
theorem dX0_placeBeyond_36 : decode cX0_placeBeyond 36 = .ok (.idiv, 1) := by decide +kernel
theorem dX0_placeBeyond_37 : decode cX0_placeBeyond 37 = .ok (.bipush 16, 2) := by decide +kernel
theorem dX0_placeBeyond_39 : decode cX0_placeBeyond 39 = .ok (.imul, 1) := by decide +kernel
theorem dX0_placeBeyond_40 : decode cX0_placeBeyond 40 = .ok (.iload_n 3, 1) := by decide +kernel
theorem dX0_placeBeyond_41 : decode cX0_placeBeyond 41 = .ok (.iadd, 1) := by decide +kernel
theorem dX0_placeBeyond_42 : decode cX0_placeBeyond 42 = .ok (.ireturn, 1) := by decide +kernel
set_option maxRecDepth 20000 in
theorem ggX0_isUsed_X0_isTagged : GoodIn wsX0_isUsed wsX0_isTagged := goodIn_r _ [6, 7, 8, 9, 5, 10, 11, 12, 13, 14, 15, 16, 17, 18, 19, 20, 21, 22, 23, 24, 25] (by decide +kernel) (by decide +kernel)
set_option maxRecDepth 20000 in
theorem gX0_isUsed_X0_isTagged : GoodIn wsX0_isUsed (wsV RX0 63 RX0 yX0_isTagged wsX0_isTagged) := goodIn_app (goodIn_of _ (by decide +kernel)) ggX0_isUsed_X0_isTagged
set_option maxRecDepth 20000 in
theorem ggX0_isUsed_X0_at : GoodIn wsX0_isUsed wsX0_at := goodIn_r _ [10] (by decide +kernel) (by decide +kernel)
set_option maxRecDepth 20000 in
theorem gX0_isUsed_X0_at : GoodIn wsX0_isUsed (va_wsS RX0 74 yX0_at wsX0_at) := goodIn_app (goodIn_of _ (by decide +kernel)) ggX0_isUsed_X0_at
theorem dX0_isUsed_0 : decode cX0_isUsed 0 = .ok (.iconst 0, 1) := by decide +kernel
theorem dX0_isUsed_1 : decode cX0_isUsed 1 = .ok (.istore_n 3, 1) := by decide +kernel
theorem dX0_isUsed_2 : decode cX0_isUsed 2 = .ok (.iload_n 3, 1) := by decide +kernel
theorem dX0_isUsed_3 : decode cX0_isUsed 3 = .ok (.bipush 6, 2) := by decide +kernel
theorem dX0_isUsed_5 : decode cX0_isUsed 5 = .ok (.if_icmp .ge 42, 3) := by decide +kernel
theorem dX0_isUsed_8 : decode cX0_isUsed 8 = .ok (.iload_n 1, 1) := by decide +kernel
theorem dX0_isUsed_9 : decode cX0_isUsed 9 = .ok (.bipush 6, 2) := by decide +kernel
theorem dX0_isUsed_11 : decode cX0_isUsed 11 = .ok (.imul, 1) := by decide +kernel
theorem dX0_isUsed_12 : decode cX0_isUsed 12 = .ok (.iload_n 3, 1) := by decide +kernel
theorem dX0_isUsed_13 : decode cX0_isUsed 13 = .ok (.iadd, 1) := by decide +kernel
theorem dX0_isUsed_14 : decode cX0_isUsed 14 = .ok (.istore 4, 2) := by decide +kernel
theorem dX0_isUsed_16 : decode cX0_isUsed 16 = .ok (.aload_n 0, 1) := by decide +kernel
theorem dX0_isUsed_17 : decode cX0_isUsed 17 = .ok (.iload 4, 2) := by decide +kernel
theorem dX0_isUsed_19 : decode cX0_isUsed 19 = .ok (.iload_n 2, 1) := by decide +kernel
theorem dX0_isUsed_20 : decode cX0_isUsed 20 = .ok (.invokevirtual 63, 3) := by decide +kernel
theorem dX0_isUsed_23 : decode cX0_isUsed 23 = .ok (.ifCond .ne 16, 3) := by decide +kernel
theorem dX0_isUsed_26 : decode cX0_isUsed 26 = .ok (.aload_n 0, 1) := by decide +kernel
theorem dX0_isUsed_27 : decode cX0_isUsed 27 = .ok (.getfield 9, 3) := by decide +kernel
theorem dX0_isUsed_30 : decode cX0_isUsed 30 = .ok (.iload 4, 2) := by decide +kernel
theorem dX0_isUsed_32 : decode cX0_isUsed 32 = .ok (.invokestatic 74, 3) := by decide +kernel
theorem dX0_isUsed_35 : decode cX0_isUsed 35 = .ok (.iload_n 2, 1) := by decide +kernel
theorem dX0_isUsed_36 : decode cX0_isUsed 36 = .ok (.if_icmp .ne 5, 3) := by decide +kernel
theorem dX0_isUsed_39 : decode cX0_isUsed 39 = .ok (.iconst 1, 1) := by decide +kernel
theorem dX0_isUsed_40 : decode cX0_isUsed 40 = .ok (.ireturn, 1) := by decide +kernel
theorem dX0_isUsed_41 : decode cX0_isUsed 41 = .ok (.iinc 3 1, 3) := by decide +kernel
theorem dX0_isUsed_44 : decode cX0_isUsed 44 = .ok (.goto (-42), 3) := by decide +kernel
theorem dX0_isUsed_47 : decode cX0_isUsed 47 = .ok (.iconst 0, 1) := by decide +kernel
theorem dX0_isUsed_48 : decode cX0_isUsed 48 = .ok (.ireturn, 1) := by decide +kernel
set_option maxRecDepth 20000 in
theorem ggX0_countUsedPlaces_X0_isUsed : GoodIn wsX0_countUsedPlaces wsX0_isUsed := goodIn_r _ [5, 6, 7, 8, 9, 4, 10, 11, 12, 13, 14, 15, 16, 17, 18, 19, 20, 21, 22, 23, 24, 25, 26, 27, 28, 29] (by decide +kernel) (by decide +kernel)
set_option maxRecDepth 20000 in
theorem gX0_countUsedPlaces_X0_isUsed : GoodIn wsX0_countUsedPlaces (wsV RX0 146 RX0 yX0_isUsed wsX0_isUsed) := goodIn_app (goodIn_of _ (by decide +kernel)) ggX0_countUsedPlaces_X0_isUsed
theorem dX0_countUsedPlaces_0 : decode cX0_countUsedPlaces 0 = .ok (.iconst 0, 1) := by decide +kernel
theorem dX0_countUsedPlaces_1 : decode cX0_countUsedPlaces 1 = .ok (.istore_n 1, 1) := by decide +kernel
theorem dX0_countUsedPlaces_2 : decode cX0_countUsedPlaces 2 = .ok (.iconst 0, 1) := by decide +kernel
theorem dX0_countUsedPlaces_3 : decode cX0_countUsedPlaces 3 = .ok (.istore_n 2, 1) := by decide +kernel
theorem dX0_countUsedPlaces_4 : decode cX0_countUsedPlaces 4 = .ok (.iload_n 2, 1) := by decide +kernel
theorem dX0_countUsedPlaces_5 : decode cX0_countUsedPlaces 5 = .ok (.bipush 6, 2) := by decide +kernel
theorem dX0_countUsedPlaces_7 : decode cX0_countUsedPlaces 7 = .ok (.if_icmp .ge 35, 3) := by decide +kernel
theorem dX0_countUsedPlaces_10 : decode cX0_countUsedPlaces 10 = .ok (.iconst 1, 1) := by decide +kernel
theorem dX0_countUsedPlaces_11 : decode cX0_countUsedPlaces 11 = .ok (.istore_n 3, 1) := by decide +kernel
theorem dX0_countUsedPlaces_12 : decode cX0_countUsedPlaces 12 = .ok (.iload_n 3, 1) := by decide +kernel
theorem dX0_countUsedPlaces_13 : decode cX0_countUsedPlaces 13 = .ok (.bipush 15, 2) := by decide +kernel
theorem dX0_countUsedPlaces_15 : decode cX0_countUsedPlaces 15 = .ok (.if_icmp .gt 21, 3) := by decide +kernel
theorem dX0_countUsedPlaces_18 : decode cX0_countUsedPlaces 18 = .ok (.aload_n 0, 1) := by decide +kernel
theorem dX0_countUsedPlaces_19 : decode cX0_countUsedPlaces 19 = .ok (.iload_n 2, 1) := by decide +kernel
theorem dX0_countUsedPlaces_20 : decode cX0_countUsedPlaces 20 = .ok (.iload_n 3, 1) := by decide +kernel
theorem dX0_countUsedPlaces_21 : decode cX0_countUsedPlaces 21 = .ok (.invokevirtual 146, 3) := by decide +kernel
theorem dX0_countUsedPlaces_24 : decode cX0_countUsedPlaces 24 = .ok (.ifCond .eq 6, 3) := by decide +kernel
theorem dX0_countUsedPlaces_27 : decode cX0_countUsedPlaces 27 = .ok (.iinc 1 1, 3) := by decide +kernel
theorem dX0_countUsedPlaces_30 : decode cX0_countUsedPlaces 30 = .ok (.iinc 3 1, 3) := by decide +kernel
theorem dX0_countUsedPlaces_33 : decode cX0_countUsedPlaces 33 = .ok (.goto (-21), 3) := by decide +kernel
theorem dX0_countUsedPlaces_36 : decode cX0_countUsedPlaces 36 = .ok (.iinc 2 1, 3) := by decide +kernel
theorem dX0_countUsedPlaces_39 : decode cX0_countUsedPlaces 39 = .ok (.goto (-35), 3) := by decide +kernel
theorem dX0_countUsedPlaces_42 : decode cX0_countUsedPlaces 42 = .ok (.iload_n 1, 1) := by decide +kernel
theorem dX0_countUsedPlaces_43 : decode cX0_countUsedPlaces 43 = .ok (.ireturn, 1) := by decide +kernel
set_option maxRecDepth 20000 in
theorem ggX0_countWays_X0_hasLiveCable : GoodIn wsX0_countWays wsX0_hasLiveCable := goodIn_r _ [6, 1, 7, 8, 9, 10, 5, 11, 25, 26, 27, 28, 29, 30, 31, 32, 33, 34, 35, 36, 37, 38, 39] (by decide +kernel) (by decide +kernel)
set_option maxRecDepth 20000 in
theorem gX0_countWays_X0_hasLiveCable : GoodIn wsX0_countWays (wsV RX0 116 RX0 yX0_hasLiveCable wsX0_hasLiveCable) := goodIn_app (goodIn_of _ (by decide +kernel)) ggX0_countWays_X0_hasLiveCable
set_option maxRecDepth 20000 in
theorem ggX0_countWays_X0_at : GoodIn wsX0_countWays wsX0_at := goodIn_r _ [11] (by decide +kernel) (by decide +kernel)
set_option maxRecDepth 20000 in
theorem gX0_countWays_X0_at : GoodIn wsX0_countWays (va_wsS RX0 74 yX0_at wsX0_at) := goodIn_app (goodIn_of _ (by decide +kernel)) ggX0_countWays_X0_at
set_option maxRecDepth 20000 in
theorem ggX0_countWays_X0_waysOver : GoodIn wsX0_countWays wsX0_waysOver := goodIn_r _ [15, 16, 17, 9, 10, 5, 11, 18, 19, 20, 21, 22, 23, 24, 25, 26, 27, 28, 29, 30, 31, 32, 33, 34, 35, 36, 37, 38, 39] (by decide +kernel) (by decide +kernel)
set_option maxRecDepth 20000 in
theorem gX0_countWays_X0_waysOver : GoodIn wsX0_countWays (wsV RX0 200 RX0 yX0_waysOver wsX0_waysOver) := goodIn_app (goodIn_of _ (by decide +kernel)) ggX0_countWays_X0_waysOver
theorem dX0_countWays_0 : decode cX0_countWays 0 = .ok (.iconst 0, 1) := by decide +kernel
theorem dX0_countWays_1 : decode cX0_countWays 1 = .ok (.istore_n 1, 1) := by decide +kernel
theorem dX0_countWays_2 : decode cX0_countWays 2 = .ok (.iconst 0, 1) := by decide +kernel
theorem dX0_countWays_3 : decode cX0_countWays 3 = .ok (.istore_n 2, 1) := by decide +kernel
theorem dX0_countWays_4 : decode cX0_countWays 4 = .ok (.iload_n 2, 1) := by decide +kernel
theorem dX0_countWays_5 : decode cX0_countWays 5 = .ok (.bipush 36, 2) := by decide +kernel
theorem dX0_countWays_7 : decode cX0_countWays 7 = .ok (.if_icmp .ge 45, 3) := by decide +kernel
theorem dX0_countWays_10 : decode cX0_countWays 10 = .ok (.aload_n 0, 1) := by decide +kernel
theorem dX0_countWays_11 : decode cX0_countWays 11 = .ok (.iload_n 2, 1) := by decide +kernel
theorem dX0_countWays_12 : decode cX0_countWays 12 = .ok (.invokevirtual 116, 3) := by decide +kernel
theorem dX0_countWays_15 : decode cX0_countWays 15 = .ok (.ifCond .eq 31, 3) := by decide +kernel
theorem dX0_countWays_18 : decode cX0_countWays 18 = .ok (.iload_n 2, 1) := by decide +kernel
theorem dX0_countWays_19 : decode cX0_countWays 19 = .ok (.aload_n 0, 1) := by decide +kernel
theorem dX0_countWays_20 : decode cX0_countWays 20 = .ok (.getfield 16, 3) := by decide +kernel
theorem dX0_countWays_23 : decode cX0_countWays 23 = .ok (.iload_n 2, 1) := by decide +kernel
theorem dX0_countWays_24 : decode cX0_countWays 24 = .ok (.invokestatic 74, 3) := by decide +kernel
theorem dX0_countWays_27 : decode cX0_countWays 27 = .ok (.if_icmp .ge 19, 3) := by decide +kernel
theorem dX0_countWays_30 : decode cX0_countWays 30 = .ok (.iload_n 1, 1) := by decide +kernel
theorem dX0_countWays_31 : decode cX0_countWays 31 = .ok (.aload_n 0, 1) := by decide +kernel
theorem dX0_countWays_32 : decode cX0_countWays 32 = .ok (.iload_n 2, 1) := by decide +kernel
theorem dX0_countWays_33 : decode cX0_countWays 33 = .ok (.aload_n 0, 1) := by decide +kernel
theorem dX0_countWays_34 : decode cX0_countWays 34 = .ok (.getfield 16, 3) := by decide +kernel
theorem dX0_countWays_37 : decode cX0_countWays 37 = .ok (.iload_n 2, 1) := by decide +kernel
theorem dX0_countWays_38 : decode cX0_countWays 38 = .ok (.invokestatic 74, 3) := by decide +kernel
theorem dX0_countWays_41 : decode cX0_countWays 41 = .ok (.invokevirtual 200, 3) := by decide +kernel
theorem dX0_countWays_44 : decode cX0_countWays 44 = .ok (.iadd, 1) := by decide +kernel
theorem dX0_countWays_45 : decode cX0_countWays 45 = .ok (.istore_n 1, 1) := by decide +kernel
theorem dX0_countWays_46 : decode cX0_countWays 46 = .ok (.iinc 2 1, 3) := by decide +kernel
theorem dX0_countWays_49 : decode cX0_countWays 49 = .ok (.goto (-45), 3) := by decide +kernel
theorem dX0_countWays_52 : decode cX0_countWays 52 = .ok (.iload_n 1, 1) := by decide +kernel
theorem dX0_countWays_53 : decode cX0_countWays 53 = .ok (.ireturn, 1) := by decide +kernel
set_option maxRecDepth 20000 in
theorem ggX0_waysOver_X0_at : GoodIn wsX0_waysOver wsX0_at := goodIn_r _ [6] (by decide +kernel) (by decide +kernel)
set_option maxRecDepth 20000 in
theorem gX0_waysOver_X0_at : GoodIn wsX0_waysOver (va_wsS RX0 74 yX0_at wsX0_at) := goodIn_app (goodIn_of _ (by decide +kernel)) ggX0_waysOver_X0_at
set_option maxRecDepth 20000 in
theorem ggX0_waysOver_J6_bitCount_0f7a4 : GoodIn wsX0_waysOver wsJ6_bitCount_0f7a4 := goodIn_r _ [10, 11, 12, 13] (by decide +kernel) (by decide +kernel)
set_option maxRecDepth 20000 in
theorem gX0_waysOver_J6_bitCount_0f7a4 : GoodIn wsX0_waysOver (va_wsS RX0 122 yJ6_bitCount_0f7a4 wsJ6_bitCount_0f7a4) := goodIn_app (goodIn_of _ (by decide +kernel)) ggX0_waysOver_J6_bitCount_0f7a4
theorem dX0_waysOver_0 : decode cX0_waysOver 0 = .ok (.aload_n 0, 1) := by decide +kernel
theorem dX0_waysOver_1 : decode cX0_waysOver 1 = .ok (.getfield 13, 3) := by decide +kernel
theorem dX0_waysOver_4 : decode cX0_waysOver 4 = .ok (.iload_n 1, 1) := by decide +kernel
theorem dX0_waysOver_5 : decode cX0_waysOver 5 = .ok (.invokestatic 74, 3) := by decide +kernel
theorem dX0_waysOver_8 : decode cX0_waysOver 8 = .ok (.aload_n 0, 1) := by decide +kernel
theorem dX0_waysOver_9 : decode cX0_waysOver 9 = .ok (.getfield 13, 3) := by decide +kernel
theorem dX0_waysOver_12 : decode cX0_waysOver 12 = .ok (.iload_n 2, 1) := by decide +kernel
theorem dX0_waysOver_13 : decode cX0_waysOver 13 = .ok (.invokestatic 74, 3) := by decide +kernel
theorem dX0_waysOver_16 : decode cX0_waysOver 16 = .ok (.iand, 1) := by decide +kernel
theorem dX0_waysOver_17 : decode cX0_waysOver 17 = .ok (.invokestatic 122, 3) := by decide +kernel
theorem dX0_waysOver_20 : decode cX0_waysOver 20 = .ok (.istore_n 3, 1) := by decide +kernel
theorem dX0_waysOver_21 : decode cX0_waysOver 21 = .ok (.aload_n 0, 1) := by decide +kernel
theorem dX0_waysOver_22 : decode cX0_waysOver 22 = .ok (.getfield 9, 3) := by decide +kernel
theorem dX0_waysOver_25 : decode cX0_waysOver 25 = .ok (.iload_n 1, 1) := by decide +kernel
theorem dX0_waysOver_26 : decode cX0_waysOver 26 = .ok (.invokestatic 74, 3) := by decide +kernel
theorem dX0_waysOver_29 : decode cX0_waysOver 29 = .ok (.ifCond .eq 18, 3) := by decide +kernel
theorem dX0_waysOver_32 : decode cX0_waysOver 32 = .ok (.aload_n 0, 1) := by decide +kernel
theorem dX0_waysOver_33 : decode cX0_waysOver 33 = .ok (.getfield 9, 3) := by decide +kernel
theorem dX0_waysOver_36 : decode cX0_waysOver 36 = .ok (.iload_n 2, 1) := by decide +kernel
theorem dX0_waysOver_37 : decode cX0_waysOver 37 = .ok (.invokestatic 74, 3) := by decide +kernel
theorem dX0_waysOver_40 : decode cX0_waysOver 40 = .ok (.ifCond .eq 7, 3) := by decide +kernel
theorem dX0_waysOver_43 : decode cX0_waysOver 43 = .ok (.iconst 1, 1) := by decide +kernel
theorem dX0_waysOver_44 : decode cX0_waysOver 44 = .ok (.goto 4, 3) := by decide +kernel
theorem dX0_waysOver_47 : decode cX0_waysOver 47 = .ok (.iconst 0, 1) := by decide +kernel
theorem dX0_waysOver_48 : decode cX0_waysOver 48 = .ok (.istore 4, 2) := by decide +kernel
theorem dX0_waysOver_50 : decode cX0_waysOver 50 = .ok (.iload 4, 2) := by decide +kernel
theorem dX0_waysOver_52 : decode cX0_waysOver 52 = .ok (.ifCond .eq 9, 3) := by decide +kernel
theorem dX0_waysOver_55 : decode cX0_waysOver 55 = .ok (.iload_n 3, 1) := by decide +kernel
theorem dX0_waysOver_56 : decode cX0_waysOver 56 = .ok (.iconst 1, 1) := by decide +kernel
theorem dX0_waysOver_57 : decode cX0_waysOver 57 = .ok (.iadd, 1) := by decide +kernel
theorem dX0_waysOver_58 : decode cX0_waysOver 58 = .ok (.goto 4, 3) := by decide +kernel
theorem dX0_waysOver_61 : decode cX0_waysOver 61 = .ok (.iload_n 3, 1) := by decide +kernel
theorem dX0_waysOver_62 : decode cX0_waysOver 62 = .ok (.ireturn, 1) := by decide +kernel
set_option maxRecDepth 20000 in
theorem ggX0_changesOver_X0_hasLiveCable : GoodIn wsX0_changesOver wsX0_hasLiveCable := goodIn_r _ [7, 1, 8, 9, 10, 11, 6, 12, 18, 19, 20, 21, 22, 23, 24, 25, 26, 27, 28, 29, 30, 31, 32] (by decide +kernel) (by decide +kernel)
set_option maxRecDepth 20000 in
theorem gX0_changesOver_X0_hasLiveCable : GoodIn wsX0_changesOver (wsV RX0 116 RX0 yX0_hasLiveCable wsX0_hasLiveCable) := goodIn_app (goodIn_of _ (by decide +kernel)) ggX0_changesOver_X0_hasLiveCable
set_option maxRecDepth 20000 in
theorem ggX0_changesOver_X0_at : GoodIn wsX0_changesOver wsX0_at := goodIn_r _ [12] (by decide +kernel) (by decide +kernel)
set_option maxRecDepth 20000 in
theorem gX0_changesOver_X0_at : GoodIn wsX0_changesOver (va_wsS RX0 74 yX0_at wsX0_at) := goodIn_app (goodIn_of _ (by decide +kernel)) ggX0_changesOver_X0_at
set_option maxRecDepth 20000 in
theorem ggX0_changesOver_X0_isTagged : GoodIn wsX0_changesOver wsX0_isTagged := goodIn_r _ [16, 17, 10, 11, 6, 12, 18, 19, 20, 21, 22, 23, 24, 25, 26, 27, 28, 29, 30, 31, 32] (by decide +kernel) (by decide +kernel)
set_option maxRecDepth 20000 in
theorem gX0_changesOver_X0_isTagged : GoodIn wsX0_changesOver (wsV RX0 63 RX0 yX0_isTagged wsX0_isTagged) := goodIn_app (goodIn_of _ (by decide +kernel)) ggX0_changesOver_X0_isTagged
theorem dX0_changesOver_0 : decode cX0_changesOver 0 = .ok (.aload_n 0, 1) := by decide +kernel
theorem dX0_changesOver_1 : decode cX0_changesOver 1 = .ok (.iload_n 1, 1) := by decide +kernel
theorem dX0_changesOver_2 : decode cX0_changesOver 2 = .ok (.invokevirtual 116, 3) := by decide +kernel
theorem dX0_changesOver_5 : decode cX0_changesOver 5 = .ok (.ifCond .ne 5, 3) := by decide +kernel
theorem dX0_changesOver_8 : decode cX0_changesOver 8 = .ok (.iconst (-1), 1) := by decide +kernel
theorem dX0_changesOver_9 : decode cX0_changesOver 9 = .ok (.ireturn, 1) := by decide +kernel
theorem dX0_changesOver_10 : decode cX0_changesOver 10 = .ok (.aload_n 0, 1) := by decide +kernel
theorem dX0_changesOver_11 : decode cX0_changesOver 11 = .ok (.getfield 16, 3) := by decide +kernel
theorem dX0_changesOver_14 : decode cX0_changesOver 14 = .ok (.iload_n 1, 1) := by decide +kernel
theorem dX0_changesOver_15 : decode cX0_changesOver 15 = .ok (.invokestatic 74, 3) := by decide +kernel
theorem dX0_changesOver_18 : decode cX0_changesOver 18 = .ok (.istore_n 3, 1) := by decide +kernel
theorem dX0_changesOver_19 : decode cX0_changesOver 19 = .ok (.aload_n 0, 1) := by decide +kernel
theorem dX0_changesOver_20 : decode cX0_changesOver 20 = .ok (.getfield 9, 3) := by decide +kernel
theorem dX0_changesOver_23 : decode cX0_changesOver 23 = .ok (.iload_n 1, 1) := by decide +kernel
theorem dX0_changesOver_24 : decode cX0_changesOver 24 = .ok (.invokestatic 74, 3) := by decide +kernel
theorem dX0_changesOver_27 : decode cX0_changesOver 27 = .ok (.iload_n 2, 1) := by decide +kernel
theorem dX0_changesOver_28 : decode cX0_changesOver 28 = .ok (.if_icmp .ne 7, 3) := by decide +kernel
theorem dX0_changesOver_31 : decode cX0_changesOver 31 = .ok (.iconst 1, 1) := by decide +kernel
theorem dX0_changesOver_32 : decode cX0_changesOver 32 = .ok (.goto 4, 3) := by decide +kernel
theorem dX0_changesOver_35 : decode cX0_changesOver 35 = .ok (.iconst 0, 1) := by decide +kernel
theorem dX0_changesOver_36 : decode cX0_changesOver 36 = .ok (.istore 4, 2) := by decide +kernel
theorem dX0_changesOver_38 : decode cX0_changesOver 38 = .ok (.aload_n 0, 1) := by decide +kernel
theorem dX0_changesOver_39 : decode cX0_changesOver 39 = .ok (.getfield 9, 3) := by decide +kernel
theorem dX0_changesOver_42 : decode cX0_changesOver 42 = .ok (.iload_n 3, 1) := by decide +kernel
theorem dX0_changesOver_43 : decode cX0_changesOver 43 = .ok (.invokestatic 74, 3) := by decide +kernel
theorem dX0_changesOver_46 : decode cX0_changesOver 46 = .ok (.iload_n 2, 1) := by decide +kernel
theorem dX0_changesOver_47 : decode cX0_changesOver 47 = .ok (.if_icmp .ne 7, 3) := by decide +kernel
theorem dX0_changesOver_50 : decode cX0_changesOver 50 = .ok (.iconst 1, 1) := by decide +kernel
theorem dX0_changesOver_51 : decode cX0_changesOver 51 = .ok (.goto 4, 3) := by decide +kernel
theorem dX0_changesOver_54 : decode cX0_changesOver 54 = .ok (.iconst 0, 1) := by decide +kernel
theorem dX0_changesOver_55 : decode cX0_changesOver 55 = .ok (.istore 5, 2) := by decide +kernel
theorem dX0_changesOver_57 : decode cX0_changesOver 57 = .ok (.iload 4, 2) := by decide +kernel
theorem dX0_changesOver_59 : decode cX0_changesOver 59 = .ok (.ifCond .ne 8, 3) := by decide +kernel
theorem dX0_changesOver_62 : decode cX0_changesOver 62 = .ok (.iload 5, 2) := by decide +kernel
theorem dX0_changesOver_64 : decode cX0_changesOver 64 = .ok (.ifCond .eq 19, 3) := by decide +kernel
theorem dX0_changesOver_67 : decode cX0_changesOver 67 = .ok (.iload 4, 2) := by decide +kernel
theorem dX0_changesOver_69 : decode cX0_changesOver 69 = .ok (.ifCond .eq 12, 3) := by decide +kernel
theorem dX0_changesOver_72 : decode cX0_changesOver 72 = .ok (.iload 5, 2) := by decide +kernel
theorem dX0_changesOver_74 : decode cX0_changesOver 74 = .ok (.ifCond .eq 7, 3) := by decide +kernel
theorem dX0_changesOver_77 : decode cX0_changesOver 77 = .ok (.iconst 0, 1) := by decide +kernel
theorem dX0_changesOver_78 : decode cX0_changesOver 78 = .ok (.goto 4, 3) := by decide +kernel
theorem dX0_changesOver_81 : decode cX0_changesOver 81 = .ok (.iconst (-1), 1) := by decide +kernel
theorem dX0_changesOver_82 : decode cX0_changesOver 82 = .ok (.ireturn, 1) := by decide +kernel
theorem dX0_changesOver_83 : decode cX0_changesOver 83 = .ok (.aload_n 0, 1) := by decide +kernel
theorem dX0_changesOver_84 : decode cX0_changesOver 84 = .ok (.iload_n 1, 1) := by decide +kernel
theorem dX0_changesOver_85 : decode cX0_changesOver 85 = .ok (.iload_n 2, 1) := by decide +kernel
theorem dX0_changesOver_86 : decode cX0_changesOver 86 = .ok (.invokevirtual 63, 3) := by decide +kernel
theorem dX0_changesOver_89 : decode cX0_changesOver 89 = .ok (.ifCond .eq 7, 3) := by decide +kernel
theorem dX0_changesOver_92 : decode cX0_changesOver 92 = .ok (.iconst 0, 1) := by decide +kernel
theorem dX0_changesOver_93 : decode cX0_changesOver 93 = .ok (.goto 4, 3) := by decide +kernel
theorem dX0_changesOver_96 : decode cX0_changesOver 96 = .ok (.iconst 1, 1) := by decide +kernel
theorem dX0_changesOver_97 : decode cX0_changesOver 97 = .ok (.aload_n 0, 1) := by decide +kernel
theorem dX0_changesOver_98 : decode cX0_changesOver 98 = .ok (.iload_n 3, 1) := by decide +kernel
theorem dX0_changesOver_99 : decode cX0_changesOver 99 = .ok (.iload_n 2, 1) := by decide +kernel
theorem dX0_changesOver_100 : decode cX0_changesOver 100 = .ok (.invokevirtual 63, 3) := by decide +kernel
theorem dX0_changesOver_103 : decode cX0_changesOver 103 = .ok (.ifCond .eq 7, 3) := by decide +kernel
theorem dX0_changesOver_106 : decode cX0_changesOver 106 = .ok (.iconst 0, 1) := by decide +kernel
theorem dX0_changesOver_107 : decode cX0_changesOver 107 = .ok (.goto 4, 3) := by decide +kernel
theorem dX0_changesOver_110 : decode cX0_changesOver 110 = .ok (.iconst 1, 1) := by decide +kernel
theorem dX0_changesOver_111 : decode cX0_changesOver 111 = .ok (.iadd, 1) := by decide +kernel
theorem dX0_changesOver_112 : decode cX0_changesOver 112 = .ok (.ireturn, 1) := by decide +kernel
