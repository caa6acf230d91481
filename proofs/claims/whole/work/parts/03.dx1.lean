theorem dX1_init_0 : decode cX1_init 0 = .ok (.aload_n 0, 1) := by decide +kernel
theorem dX1_init_1 : decode cX1_init 1 = .ok (.invokespecial 1, 3) := by decide +kernel
theorem dX1_init_4 : decode cX1_init 4 = .ok (.aload_n 0, 1) := by decide +kernel
theorem dX1_init_5 : decode cX1_init 5 = .ok (.bipush 36, 2) := by decide +kernel
theorem dX1_init_7 : decode cX1_init 7 = .ok (.newarray .int, 2) := by decide +kernel
theorem dX1_init_9 : decode cX1_init 9 = .ok (.putfield 7, 3) := by decide +kernel
theorem dX1_init_12 : decode cX1_init 12 = .ok (.aload_n 0, 1) := by decide +kernel
theorem dX1_init_13 : decode cX1_init 13 = .ok (.bipush 36, 2) := by decide +kernel
theorem dX1_init_15 : decode cX1_init 15 = .ok (.newarray .int, 2) := by decide +kernel
theorem dX1_init_17 : decode cX1_init 17 = .ok (.putfield 13, 3) := by decide +kernel
theorem dX1_init_20 : decode cX1_init 20 = .ok (.aload_n 0, 1) := by decide +kernel
theorem dX1_init_21 : decode cX1_init 21 = .ok (.bipush 36, 2) := by decide +kernel
theorem dX1_init_23 : decode cX1_init 23 = .ok (.newarray .int, 2) := by decide +kernel
theorem dX1_init_25 : decode cX1_init 25 = .ok (.putfield 16, 3) := by decide +kernel
theorem dX1_init_28 : decode cX1_init 28 = .ok (.aload_n 0, 1) := by decide +kernel
theorem dX1_init_29 : decode cX1_init 29 = .ok (.bipush 36, 2) := by decide +kernel
theorem dX1_init_31 : decode cX1_init 31 = .ok (.newarray .int, 2) := by decide +kernel
theorem dX1_init_33 : decode cX1_init 33 = .ok (.putfield 19, 3) := by decide +kernel
theorem dX1_init_36 : decode cX1_init 36 = .ok (.aload_n 0, 1) := by decide +kernel
theorem dX1_init_37 : decode cX1_init 37 = .ok (.bipush 36, 2) := by decide +kernel
theorem dX1_init_39 : decode cX1_init 39 = .ok (.newarray .int, 2) := by decide +kernel
theorem dX1_init_41 : decode cX1_init 41 = .ok (.putfield 22, 3) := by decide +kernel
theorem dX1_init_44 : decode cX1_init 44 = .ok (.aload_n 0, 1) := by decide +kernel
theorem dX1_init_45 : decode cX1_init 45 = .ok (.bipush 6, 2) := by decide +kernel
theorem dX1_init_47 : decode cX1_init 47 = .ok (.newarray .int, 2) := by decide +kernel
theorem dX1_init_49 : decode cX1_init 49 = .ok (.putfield 25, 3) := by decide +kernel
theorem dX1_init_52 : decode cX1_init 52 = .ok (.aload_n 0, 1) := by decide +kernel
theorem dX1_init_53 : decode cX1_init 53 = .ok (.bipush 6, 2) := by decide +kernel
theorem dX1_init_55 : decode cX1_init 55 = .ok (.newarray .int, 2) := by decide +kernel
theorem dX1_init_57 : decode cX1_init 57 = .ok (.putfield 28, 3) := by decide +kernel
theorem dX1_init_60 : decode cX1_init 60 = .ok (.aload_n 0, 1) := by decide +kernel
theorem dX1_init_61 : decode cX1_init 61 = .ok (.bipush 6, 2) := by decide +kernel
theorem dX1_init_63 : decode cX1_init 63 = .ok (.newarray .int, 2) := by decide +kernel
theorem dX1_init_65 : decode cX1_init 65 = .ok (.putfield 31, 3) := by decide +kernel
theorem dX1_init_68 : decode cX1_init 68 = .ok (.aload_n 0, 1) := by decide +kernel
theorem dX1_init_69 : decode cX1_init 69 = .ok (.bipush 96, 2) := by decide +kernel
theorem dX1_init_71 : decode cX1_init 71 = .ok (.newarray .int, 2) := by decide +kernel
theorem dX1_init_73 : decode cX1_init 73 = .ok (.putfield 34, 3) := by decide +kernel
theorem dX1_init_76 : decode cX1_init 76 = .ok (.aload_n 0, 1) := by decide +kernel
theorem dX1_init_77 : decode cX1_init 77 = .ok (.bipush 96, 2) := by decide +kernel
theorem dX1_init_79 : decode cX1_init 79 = .ok (.newarray .int, 2) := by decide +kernel
theorem dX1_init_81 : decode cX1_init 81 = .ok (.putfield 37, 3) := by decide +kernel
theorem dX1_init_84 : decode cX1_init 84 = .ok (.aload_n 0, 1) := by decide +kernel
theorem dX1_init_85 : decode cX1_init 85 = .ok (.bipush 6, 2) := by decide +kernel
theorem dX1_init_87 : decode cX1_init 87 = .ok (.newarray .int, 2) := by decide +kernel
theorem dX1_init_89 : decode cX1_init 89 = .ok (.putfield 40, 3) := by decide +kernel
theorem dX1_init_92 : decode cX1_init 92 = .ok (.iconst 0, 1) := by decide +kernel
theorem dX1_init_93 : decode cX1_init 93 = .ok (.istore_n 1, 1) := by decide +kernel
theorem dX1_init_94 : decode cX1_init 94 = .ok (.iload_n 1, 1) := by decide +kernel
theorem dX1_init_95 : decode cX1_init 95 = .ok (.bipush 36, 2) := by decide +kernel
theorem dX1_init_97 : decode cX1_init 97 = .ok (.if_icmp .ge 23, 3) := by decide +kernel
theorem dX1_init_100 : decode cX1_init 100 = .ok (.aload_n 0, 1) := by decide +kernel
theorem dX1_init_101 : decode cX1_init 101 = .ok (.getfield 16, 3) := by decide +kernel
theorem dX1_init_104 : decode cX1_init 104 = .ok (.iload_n 1, 1) := by decide +kernel
theorem dX1_init_105 : decode cX1_init 105 = .ok (.iconst (-1), 1) := by decide +kernel
theorem dX1_init_106 : decode cX1_init 106 = .ok (.iastore, 1) := by decide +kernel
theorem dX1_init_107 : decode cX1_init 107 = .ok (.aload_n 0, 1) := by decide +kernel
theorem dX1_init_108 : decode cX1_init 108 = .ok (.getfield 22, 3) := by decide +kernel
theorem dX1_init_111 : decode cX1_init 111 = .ok (.iload_n 1, 1) := by decide +kernel
theorem dX1_init_112 : decode cX1_init 112 = .ok (.iconst (-1), 1) := by decide +kernel
theorem dX1_init_113 : decode cX1_init 113 = .ok (.iastore, 1) := by decide +kernel
theorem dX1_init_114 : decode cX1_init 114 = .ok (.iinc 1 1, 3) := by decide +kernel
theorem dX1_init_117 : decode cX1_init 117 = .ok (.goto (-23), 3) := by decide +kernel
theorem dX1_init_120 : decode cX1_init 120 = .ok (.return_, 1) := by decide +kernel
theorem dX1_thrown_0 : decode cX1_thrown 0 = .ok (.aload_n 0, 1) := by decide +kernel
theorem dX1_thrown_1 : decode cX1_thrown 1 = .ok (.getfield 43, 3) := by decide +kernel
theorem dX1_thrown_4 : decode cX1_thrown 4 = .ok (.ireturn, 1) := by decide +kernel
theorem dX1_in_0 : decode cX1_in 0 = .ok (.iload_n 0, 1) := by decide +kernel
theorem dX1_in_1 : decode cX1_in 1 = .ok (.iload_n 1, 1) := by decide +kernel
theorem dX1_in_2 : decode cX1_in 2 = .ok (.if_icmp .lt 12, 3) := by decide +kernel
theorem dX1_in_5 : decode cX1_in 5 = .ok (.iload_n 0, 1) := by decide +kernel
theorem dX1_in_6 : decode cX1_in 6 = .ok (.iload_n 2, 1) := by decide +kernel
theorem dX1_in_7 : decode cX1_in 7 = .ok (.if_icmp .gt 7, 3) := by decide +kernel
theorem dX1_in_10 : decode cX1_in 10 = .ok (.iconst 1, 1) := by decide +kernel
theorem dX1_in_11 : decode cX1_in 11 = .ok (.goto 4, 3) := by decide +kernel
theorem dX1_in_14 : decode cX1_in 14 = .ok (.iconst 0, 1) := by decide +kernel
theorem dX1_in_15 : decode cX1_in 15 = .ok (.ireturn, 1) := by decide +kernel
set_option maxRecDepth 20000 in
theorem ggX1_isPort_X1_in : GoodIn wsX1_isPort wsX1_in := goodIn_r _ [4] (by decide +kernel) (by decide +kernel)
set_option maxRecDepth 20000 in
theorem gX1_isPort_X1_in : GoodIn wsX1_isPort (va_wsS RX1 47 yX1_in wsX1_in) := goodIn_app (goodIn_of _ (by decide +kernel)) ggX1_isPort_X1_in
theorem dX1_isPort_0 : decode cX1_isPort 0 = .ok (.iload_n 0, 1) := by decide +kernel
theorem dX1_isPort_1 : decode cX1_isPort 1 = .ok (.iconst 0, 1) := by decide +kernel
theorem dX1_isPort_2 : decode cX1_isPort 2 = .ok (.iconst 5, 1) := by decide +kernel
theorem dX1_isPort_3 : decode cX1_isPort 3 = .ok (.invokestatic 47, 3) := by decide +kernel
theorem dX1_isPort_6 : decode cX1_isPort 6 = .ok (.ifCond .eq 16, 3) := by decide +kernel
theorem dX1_isPort_9 : decode cX1_isPort 9 = .ok (.iload_n 1, 1) := by decide +kernel
theorem dX1_isPort_10 : decode cX1_isPort 10 = .ok (.iconst 0, 1) := by decide +kernel
theorem dX1_isPort_11 : decode cX1_isPort 11 = .ok (.iconst 5, 1) := by decide +kernel
theorem dX1_isPort_12 : decode cX1_isPort 12 = .ok (.invokestatic 47, 3) := by decide +kernel
theorem dX1_isPort_15 : decode cX1_isPort 15 = .ok (.ifCond .eq 7, 3) := by decide +kernel
theorem dX1_isPort_18 : decode cX1_isPort 18 = .ok (.iconst 1, 1) := by decide +kernel
theorem dX1_isPort_19 : decode cX1_isPort 19 = .ok (.goto 4, 3) := by decide +kernel
theorem dX1_isPort_22 : decode cX1_isPort 22 = .ok (.iconst 0, 1) := by decide +kernel
theorem dX1_isPort_23 : decode cX1_isPort 23 = .ok (.ireturn, 1) := by decide +kernel
set_option maxRecDepth 20000 in
theorem ggX1_isPlace_X1_in : GoodIn wsX1_isPlace wsX1_in := goodIn_r _ [4] (by decide +kernel) (by decide +kernel)
set_option maxRecDepth 20000 in
theorem gX1_isPlace_X1_in : GoodIn wsX1_isPlace (va_wsS RX1 47 yX1_in wsX1_in) := goodIn_app (goodIn_of _ (by decide +kernel)) ggX1_isPlace_X1_in
theorem dX1_isPlace_0 : decode cX1_isPlace 0 = .ok (.iload_n 0, 1) := by decide +kernel
theorem dX1_isPlace_1 : decode cX1_isPlace 1 = .ok (.iconst 0, 1) := by decide +kernel
theorem dX1_isPlace_2 : decode cX1_isPlace 2 = .ok (.iconst 5, 1) := by decide +kernel
theorem dX1_isPlace_3 : decode cX1_isPlace 3 = .ok (.invokestatic 47, 3) := by decide +kernel
theorem dX1_isPlace_6 : decode cX1_isPlace 6 = .ok (.ifCond .eq 17, 3) := by decide +kernel
theorem dX1_isPlace_9 : decode cX1_isPlace 9 = .ok (.iload_n 1, 1) := by decide +kernel
theorem dX1_isPlace_10 : decode cX1_isPlace 10 = .ok (.iconst 1, 1) := by decide +kernel
theorem dX1_isPlace_11 : decode cX1_isPlace 11 = .ok (.bipush 15, 2) := by decide +kernel
theorem dX1_isPlace_13 : decode cX1_isPlace 13 = .ok (.invokestatic 47, 3) := by decide +kernel
theorem dX1_isPlace_16 : decode cX1_isPlace 16 = .ok (.ifCond .eq 7, 3) := by decide +kernel
theorem dX1_isPlace_19 : decode cX1_isPlace 19 = .ok (.iconst 1, 1) := by decide +kernel
theorem dX1_isPlace_20 : decode cX1_isPlace 20 = .ok (.goto 4, 3) := by decide +kernel
theorem dX1_isPlace_23 : decode cX1_isPlace 23 = .ok (.iconst 0, 1) := by decide +kernel
theorem dX1_isPlace_24 : decode cX1_isPlace 24 = .ok (.ireturn, 1) := by decide +kernel
theorem dX1_isTagged_0 : decode cX1_isTagged 0 = .ok (.aload_n 0, 1) := by decide +kernel
theorem dX1_isTagged_1 : decode cX1_isTagged 1 = .ok (.getfield 13, 3) := by decide +kernel
theorem dX1_isTagged_4 : decode cX1_isTagged 4 = .ok (.iload_n 1, 1) := by decide +kernel
theorem dX1_isTagged_5 : decode cX1_isTagged 5 = .ok (.iaload, 1) := by decide +kernel
theorem dX1_isTagged_6 : decode cX1_isTagged 6 = .ok (.iload_n 2, 1) := by decide +kernel
theorem dX1_isTagged_7 : decode cX1_isTagged 7 = .ok (.ishr, 1) := by decide +kernel
theorem dX1_isTagged_8 : decode cX1_isTagged 8 = .ok (.iconst 1, 1) := by decide +kernel
theorem dX1_isTagged_9 : decode cX1_isTagged 9 = .ok (.iand, 1) := by decide +kernel
theorem dX1_isTagged_10 : decode cX1_isTagged 10 = .ok (.iconst 1, 1) := by decide +kernel
theorem dX1_isTagged_11 : decode cX1_isTagged 11 = .ok (.if_icmp .ne 7, 3) := by decide +kernel
theorem dX1_isTagged_14 : decode cX1_isTagged 14 = .ok (.iconst 1, 1) := by decide +kernel
theorem dX1_isTagged_15 : decode cX1_isTagged 15 = .ok (.goto 4, 3) := by decide +kernel
theorem dX1_isTagged_18 : decode cX1_isTagged 18 = .ok (.iconst 0, 1) := by decide +kernel
theorem dX1_isTagged_19 : decode cX1_isTagged 19 = .ok (.ireturn, 1) := by decide +kernel
set_option maxRecDepth 20000 in
theorem ggX1_untag_X1_isPort : GoodIn wsX1_untag wsX1_isPort := goodIn_r _ [6, 7, 8, 5, 9] (by decide +kernel) (by decide +kernel)
set_option maxRecDepth 20000 in
theorem gX1_untag_X1_isPort : GoodIn wsX1_untag (va_wsS RX1 51 yX1_isPort wsX1_isPort) := goodIn_app (goodIn_of _ (by decide +kernel)) ggX1_untag_X1_isPort
set_option maxRecDepth 20000 in
theorem ggX1_untag_X1_in : GoodIn wsX1_untag wsX1_in := goodIn_r _ [9] (by decide +kernel) (by decide +kernel)
set_option maxRecDepth 20000 in
theorem gX1_untag_X1_in : GoodIn wsX1_untag (va_wsS RX1 47 yX1_in wsX1_in) := goodIn_app (goodIn_of _ (by decide +kernel)) ggX1_untag_X1_in
set_option maxRecDepth 20000 in
theorem ggX1_untag_X1_isTagged : GoodIn wsX1_untag wsX1_isTagged := goodIn_r _ [13, 14, 15, 16, 17, 18, 19, 20, 21, 22, 23, 24, 25, 26, 27, 28, 29] (by decide +kernel) (by decide +kernel)
set_option maxRecDepth 20000 in
theorem gX1_untag_X1_isTagged : GoodIn wsX1_untag (wsV RX1 55 RX1 yX1_isTagged wsX1_isTagged) := goodIn_app (goodIn_of _ (by decide +kernel)) ggX1_untag_X1_isTagged
theorem dX1_untag_0 : decode cX1_untag 0 = .ok (.bipush 6, 2) := by decide +kernel
theorem dX1_untag_2 : decode cX1_untag 2 = .ok (.iload_n 1, 1) := by decide +kernel
theorem dX1_untag_3 : decode cX1_untag 3 = .ok (.imul, 1) := by decide +kernel
theorem dX1_untag_4 : decode cX1_untag 4 = .ok (.iload_n 2, 1) := by decide +kernel
theorem dX1_untag_5 : decode cX1_untag 5 = .ok (.iadd, 1) := by decide +kernel
theorem dX1_untag_6 : decode cX1_untag 6 = .ok (.istore 4, 2) := by decide +kernel
theorem dX1_untag_8 : decode cX1_untag 8 = .ok (.aload_n 0, 1) := by decide +kernel
theorem dX1_untag_9 : decode cX1_untag 9 = .ok (.iload_n 1, 1) := by decide +kernel
theorem dX1_untag_10 : decode cX1_untag 10 = .ok (.iload_n 2, 1) := by decide +kernel
theorem dX1_untag_11 : decode cX1_untag 11 = .ok (.invokestatic 51, 3) := by decide +kernel
theorem dX1_untag_14 : decode cX1_untag 14 = .ok (.ifCond .eq 13, 3) := by decide +kernel
theorem dX1_untag_17 : decode cX1_untag 17 = .ok (.iload_n 3, 1) := by decide +kernel
theorem dX1_untag_18 : decode cX1_untag 18 = .ok (.iconst 0, 1) := by decide +kernel
theorem dX1_untag_19 : decode cX1_untag 19 = .ok (.bipush 15, 2) := by decide +kernel
theorem dX1_untag_21 : decode cX1_untag 21 = .ok (.invokestatic 47, 3) := by decide +kernel
theorem dX1_untag_24 : decode cX1_untag 24 = .ok (.ifCond .ne 7, 3) := by decide +kernel
theorem dX1_untag_27 : decode cX1_untag 27 = .ok (.iconst 1, 1) := by decide +kernel
theorem dX1_untag_28 : decode cX1_untag 28 = .ok (.goto 18, 3) := by decide +kernel
theorem dX1_untag_31 : decode cX1_untag 31 = .ok (.aload_n 0, 1) := by decide +kernel
theorem dX1_untag_32 : decode cX1_untag 32 = .ok (.iload 4, 2) := by decide +kernel
theorem dX1_untag_34 : decode cX1_untag 34 = .ok (.iload_n 3, 1) := by decide +kernel
theorem dX1_untag_35 : decode cX1_untag 35 = .ok (.invokevirtual 55, 3) := by decide +kernel
theorem dX1_untag_38 : decode cX1_untag 38 = .ok (.ifCond .eq 7, 3) := by decide +kernel
theorem dX1_untag_41 : decode cX1_untag 41 = .ok (.iconst 2, 1) := by decide +kernel
theorem dX1_untag_42 : decode cX1_untag 42 = .ok (.goto 4, 3) := by decide +kernel
theorem dX1_untag_45 : decode cX1_untag 45 = .ok (.iconst 0, 1) := by decide +kernel
theorem dX1_untag_46 : decode cX1_untag 46 = .ok (.putfield 43, 3) := by decide +kernel
theorem dX1_untag_49 : decode cX1_untag 49 = .ok (.aload_n 0, 1) := by decide +kernel
theorem dX1_untag_50 : decode cX1_untag 50 = .ok (.getfield 43, 3) := by decide +kernel
theorem dX1_untag_53 : decode cX1_untag 53 = .ok (.ifCond .le 5, 3) := by decide +kernel
theorem dX1_untag_56 : decode cX1_untag 56 = .ok (.iconst 0, 1) := by decide +kernel
theorem dX1_untag_57 : decode cX1_untag 57 = .ok (.ireturn, 1) := by decide +kernel
theorem dX1_untag_58 : decode cX1_untag 58 = .ok (.aload_n 0, 1) := by decide +kernel
theorem dX1_untag_59 : decode cX1_untag 59 = .ok (.getfield 7, 3) := by decide +kernel
theorem dX1_untag_62 : decode cX1_untag 62 = .ok (.iload 4, 2) := by decide +kernel
theorem dX1_untag_64 : decode cX1_untag 64 = .ok (.iaload, 1) := by decide +kernel
theorem dX1_untag_65 : decode cX1_untag 65 = .ok (.istore 5, 2) := by decide +kernel
theorem dX1_untag_67 : decode cX1_untag 67 = .ok (.aload_n 0, 1) := by decide +kernel
theorem dX1_untag_68 : decode cX1_untag 68 = .ok (.getfield 7, 3) := by decide +kernel
theorem dX1_untag_71 : decode cX1_untag 71 = .ok (.iload 4, 2) := by decide +kernel
theorem dX1_untag_73 : decode cX1_untag 73 = .ok (.iload_n 3, 1) := by decide +kernel
theorem dX1_untag_74 : decode cX1_untag 74 = .ok (.iastore, 1) := by decide +kernel
theorem dX1_untag_75 : decode cX1_untag 75 = .ok (.iload 5, 2) := by decide +kernel
theorem dX1_untag_77 : decode cX1_untag 77 = .ok (.ireturn, 1) := by decide +kernel
set_option maxRecDepth 20000 in
theorem ggX1_tag_X1_isPort : GoodIn wsX1_tag wsX1_isPort := goodIn_r _ [7, 8, 9, 6, 10] (by decide +kernel) (by decide +kernel)
set_option maxRecDepth 20000 in
theorem gX1_tag_X1_isPort : GoodIn wsX1_tag (va_wsS RX1 51 yX1_isPort wsX1_isPort) := goodIn_app (goodIn_of _ (by decide +kernel)) ggX1_tag_X1_isPort
set_option maxRecDepth 20000 in
theorem ggX1_tag_X1_isPlace : GoodIn wsX1_tag wsX1_isPlace := goodIn_r _ [13, 8, 9, 6, 10] (by decide +kernel) (by decide +kernel)
set_option maxRecDepth 20000 in
theorem gX1_tag_X1_isPlace : GoodIn wsX1_tag (va_wsS RX1 58 yX1_isPlace wsX1_isPlace) := goodIn_app (goodIn_of _ (by decide +kernel)) ggX1_tag_X1_isPlace
set_option maxRecDepth 20000 in
theorem ggX1_tag_X1_isTagged : GoodIn wsX1_tag wsX1_isTagged := goodIn_r _ [17, 3, 18, 19, 20, 21, 22, 23, 24, 25, 26, 27, 28, 29, 30, 31, 32] (by decide +kernel) (by decide +kernel)
set_option maxRecDepth 20000 in
theorem gX1_tag_X1_isTagged : GoodIn wsX1_tag (wsV RX1 55 RX1 yX1_isTagged wsX1_isTagged) := goodIn_app (goodIn_of _ (by decide +kernel)) ggX1_tag_X1_isTagged
theorem dX1_tag_0 : decode cX1_tag 0 = .ok (.bipush 6, 2) := by decide +kernel
theorem dX1_tag_2 : decode cX1_tag 2 = .ok (.iload_n 1, 1) := by decide +kernel
theorem dX1_tag_3 : decode cX1_tag 3 = .ok (.imul, 1) := by decide +kernel
theorem dX1_tag_4 : decode cX1_tag 4 = .ok (.iload_n 2, 1) := by decide +kernel
theorem dX1_tag_5 : decode cX1_tag 5 = .ok (.iadd, 1) := by decide +kernel
theorem dX1_tag_6 : decode cX1_tag 6 = .ok (.istore 5, 2) := by decide +kernel
theorem dX1_tag_8 : decode cX1_tag 8 = .ok (.aload_n 0, 1) := by decide +kernel
theorem dX1_tag_9 : decode cX1_tag 9 = .ok (.iload_n 1, 1) := by decide +kernel
theorem dX1_tag_10 : decode cX1_tag 10 = .ok (.iload_n 2, 1) := by decide +kernel
theorem dX1_tag_11 : decode cX1_tag 11 = .ok (.invokestatic 51, 3) := by decide +kernel
theorem dX1_tag_14 : decode cX1_tag 14 = .ok (.ifCond .eq 11, 3) := by decide +kernel
theorem dX1_tag_17 : decode cX1_tag 17 = .ok (.iload_n 1, 1) := by decide +kernel
theorem dX1_tag_18 : decode cX1_tag 18 = .ok (.iload_n 3, 1) := by decide +kernel
theorem dX1_tag_19 : decode cX1_tag 19 = .ok (.invokestatic 58, 3) := by decide +kernel
theorem dX1_tag_22 : decode cX1_tag 22 = .ok (.ifCond .ne 7, 3) := by decide +kernel
theorem dX1_tag_25 : decode cX1_tag 25 = .ok (.iconst 1, 1) := by decide +kernel
theorem dX1_tag_26 : decode cX1_tag 26 = .ok (.goto 24, 3) := by decide +kernel
theorem dX1_tag_29 : decode cX1_tag 29 = .ok (.iload 4, 2) := by decide +kernel
theorem dX1_tag_31 : decode cX1_tag 31 = .ok (.ifCond .eq 18, 3) := by decide +kernel
theorem dX1_tag_34 : decode cX1_tag 34 = .ok (.aload_n 0, 1) := by decide +kernel
theorem dX1_tag_35 : decode cX1_tag 35 = .ok (.getfield 7, 3) := by decide +kernel
theorem dX1_tag_38 : decode cX1_tag 38 = .ok (.iload 5, 2) := by decide +kernel
theorem dX1_tag_40 : decode cX1_tag 40 = .ok (.iaload, 1) := by decide +kernel
theorem dX1_tag_41 : decode cX1_tag 41 = .ok (.iload_n 3, 1) := by decide +kernel
theorem dX1_tag_42 : decode cX1_tag 42 = .ok (.if_icmp .ne 7, 3) := by decide +kernel
theorem dX1_tag_45 : decode cX1_tag 45 = .ok (.iconst 2, 1) := by decide +kernel
theorem dX1_tag_46 : decode cX1_tag 46 = .ok (.goto 4, 3) := by decide +kernel
theorem dX1_tag_49 : decode cX1_tag 49 = .ok (.iconst 0, 1) := by decide +kernel
theorem dX1_tag_50 : decode cX1_tag 50 = .ok (.putfield 43, 3) := by decide +kernel
theorem dX1_tag_53 : decode cX1_tag 53 = .ok (.aload_n 0, 1) := by decide +kernel
theorem dX1_tag_54 : decode cX1_tag 54 = .ok (.getfield 43, 3) := by decide +kernel
theorem dX1_tag_57 : decode cX1_tag 57 = .ok (.ifCond .le 5, 3) := by decide +kernel
theorem dX1_tag_60 : decode cX1_tag 60 = .ok (.iconst 0, 1) := by decide +kernel
theorem dX1_tag_61 : decode cX1_tag 61 = .ok (.ireturn, 1) := by decide +kernel
theorem dX1_tag_62 : decode cX1_tag 62 = .ok (.aload_n 0, 1) := by decide +kernel
theorem dX1_tag_63 : decode cX1_tag 63 = .ok (.iload 5, 2) := by decide +kernel
theorem dX1_tag_65 : decode cX1_tag 65 = .ok (.iload_n 3, 1) := by decide +kernel
theorem dX1_tag_66 : decode cX1_tag 66 = .ok (.invokevirtual 55, 3) := by decide +kernel
theorem dX1_tag_69 : decode cX1_tag 69 = .ok (.istore 6, 2) := by decide +kernel
theorem dX1_tag_71 : decode cX1_tag 71 = .ok (.aload_n 0, 1) := by decide +kernel
theorem dX1_tag_72 : decode cX1_tag 72 = .ok (.getfield 13, 3) := by decide +kernel
theorem dX1_tag_75 : decode cX1_tag 75 = .ok (.iload 5, 2) := by decide +kernel
theorem dX1_tag_77 : decode cX1_tag 77 = .ok (.iload 4, 2) := by decide +kernel
theorem dX1_tag_79 : decode cX1_tag 79 = .ok (.ifCond .eq 17, 3) := by decide +kernel
theorem dX1_tag_82 : decode cX1_tag 82 = .ok (.aload_n 0, 1) := by decide +kernel
theorem dX1_tag_83 : decode cX1_tag 83 = .ok (.getfield 13, 3) := by decide +kernel
theorem dX1_tag_86 : decode cX1_tag 86 = .ok (.iload 5, 2) := by decide +kernel
theorem dX1_tag_88 : decode cX1_tag 88 = .ok (.iaload, 1) := by decide +kernel
theorem dX1_tag_89 : decode cX1_tag 89 = .ok (.iconst 1, 1) := by decide +kernel
theorem dX1_tag_90 : decode cX1_tag 90 = .ok (.iload_n 3, 1) := by decide +kernel
theorem dX1_tag_91 : decode cX1_tag 91 = .ok (.ishl, 1) := by decide +kernel
theorem dX1_tag_92 : decode cX1_tag 92 = .ok (.ior, 1) := by decide +kernel
theorem dX1_tag_93 : decode cX1_tag 93 = .ok (.goto 16, 3) := by decide +kernel
theorem dX1_tag_96 : decode cX1_tag 96 = .ok (.aload_n 0, 1) := by decide +kernel
theorem dX1_tag_97 : decode cX1_tag 97 = .ok (.getfield 13, 3) := by decide +kernel
theorem dX1_tag_100 : decode cX1_tag 100 = .ok (.iload 5, 2) := by decide +kernel
theorem dX1_tag_102 : decode cX1_tag 102 = .ok (.iaload, 1) := by decide +kernel
theorem dX1_tag_103 : decode cX1_tag 103 = .ok (.iconst 1, 1) := by decide +kernel
theorem dX1_tag_104 : decode cX1_tag 104 = .ok (.iload_n 3, 1) := by decide +kernel
theorem dX1_tag_105 : decode cX1_tag 105 = .ok (.ishl, 1) := by decide +kernel
theorem dX1_tag_106 : decode cX1_tag 106 = .ok (.iconst (-1), 1) := by decide +kernel
theorem dX1_tag_107 : decode cX1_tag 107 = .ok (.ixor, 1) := by decide +kernel
theorem dX1_tag_108 : decode cX1_tag 108 = .ok (.iand, 1) := by decide +kernel
theorem dX1_tag_109 : decode cX1_tag 109 = .ok (.iastore, 1) := by decide +kernel
theorem dX1_tag_110 : decode cX1_tag 110 = .ok (.iload 6, 2) := by decide +kernel
theorem dX1_tag_112 : decode cX1_tag 112 = .ok (.ireturn, 1) := by decide +kernel
set_option maxRecDepth 20000 in
theorem ggX1_cable_X1_isPort : GoodIn wsX1_cable wsX1_isPort := goodIn_r _ [8, 9, 10, 7, 11] (by decide +kernel) (by decide +kernel)
set_option maxRecDepth 20000 in
theorem gX1_cable_X1_isPort : GoodIn wsX1_cable (va_wsS RX1 51 yX1_isPort wsX1_isPort) := goodIn_app (goodIn_of _ (by decide +kernel)) ggX1_cable_X1_isPort
set_option maxRecDepth 20000 in
theorem ggX1_cable_X1_in : GoodIn wsX1_cable wsX1_in := goodIn_r _ [11] (by decide +kernel) (by decide +kernel)
set_option maxRecDepth 20000 in
theorem gX1_cable_X1_in : GoodIn wsX1_cable (va_wsS RX1 47 yX1_in wsX1_in) := goodIn_app (goodIn_of _ (by decide +kernel)) ggX1_cable_X1_in
theorem dX1_cable_0 : decode cX1_cable 0 = .ok (.bipush 6, 2) := by decide +kernel
theorem dX1_cable_2 : decode cX1_cable 2 = .ok (.iload_n 1, 1) := by decide +kernel
theorem dX1_cable_3 : decode cX1_cable 3 = .ok (.imul, 1) := by decide +kernel
theorem dX1_cable_4 : decode cX1_cable 4 = .ok (.iload_n 2, 1) := by decide +kernel
theorem dX1_cable_5 : decode cX1_cable 5 = .ok (.iadd, 1) := by decide +kernel
theorem dX1_cable_6 : decode cX1_cable 6 = .ok (.istore 6, 2) := by decide +kernel
theorem dX1_cable_8 : decode cX1_cable 8 = .ok (.bipush 6, 2) := by decide +kernel
theorem dX1_cable_10 : decode cX1_cable 10 = .ok (.iload_n 3, 1) := by decide +kernel
theorem dX1_cable_11 : decode cX1_cable 11 = .ok (.imul, 1) := by decide +kernel
theorem dX1_cable_12 : decode cX1_cable 12 = .ok (.iload 4, 2) := by decide +kernel
theorem dX1_cable_14 : decode cX1_cable 14 = .ok (.iadd, 1) := by decide +kernel
theorem dX1_cable_15 : decode cX1_cable 15 = .ok (.istore 7, 2) := by decide +kernel
theorem dX1_cable_17 : decode cX1_cable 17 = .ok (.aload_n 0, 1) := by decide +kernel
theorem dX1_cable_18 : decode cX1_cable 18 = .ok (.iload_n 1, 1) := by decide +kernel
theorem dX1_cable_19 : decode cX1_cable 19 = .ok (.iload_n 2, 1) := by decide +kernel
theorem dX1_cable_20 : decode cX1_cable 20 = .ok (.invokestatic 51, 3) := by decide +kernel
theorem dX1_cable_23 : decode cX1_cable 23 = .ok (.ifCond .eq 28, 3) := by decide +kernel
theorem dX1_cable_26 : decode cX1_cable 26 = .ok (.iload_n 3, 1) := by decide +kernel
theorem dX1_cable_27 : decode cX1_cable 27 = .ok (.iload 4, 2) := by decide +kernel
theorem dX1_cable_29 : decode cX1_cable 29 = .ok (.invokestatic 51, 3) := by decide +kernel
theorem dX1_cable_32 : decode cX1_cable 32 = .ok (.ifCond .eq 19, 3) := by decide +kernel
theorem dX1_cable_35 : decode cX1_cable 35 = .ok (.iload 5, 2) := by decide +kernel
theorem dX1_cable_37 : decode cX1_cable 37 = .ok (.iconst 1, 1) := by decide +kernel
theorem dX1_cable_38 : decode cX1_cable 38 = .ok (.bipush 20, 2) := by decide +kernel
theorem dX1_cable_40 : decode cX1_cable 40 = .ok (.invokestatic 47, 3) := by decide +kernel
theorem dX1_cable_43 : decode cX1_cable 43 = .ok (.ifCond .eq 8, 3) := by decide +kernel
theorem dX1_cable_46 : decode cX1_cable 46 = .ok (.iload_n 1, 1) := by decide +kernel
theorem dX1_cable_47 : decode cX1_cable 47 = .ok (.iload_n 3, 1) := by decide +kernel
theorem dX1_cable_48 : decode cX1_cable 48 = .ok (.if_icmp .ne 7, 3) := by decide +kernel
theorem dX1_cable_51 : decode cX1_cable 51 = .ok (.iconst 1, 1) := by decide +kernel
theorem dX1_cable_52 : decode cX1_cable 52 = .ok (.goto 30, 3) := by decide +kernel
theorem dX1_cable_55 : decode cX1_cable 55 = .ok (.aload_n 0, 1) := by decide +kernel
theorem dX1_cable_56 : decode cX1_cable 56 = .ok (.getfield 16, 3) := by decide +kernel
theorem dX1_cable_59 : decode cX1_cable 59 = .ok (.iload 6, 2) := by decide +kernel
theorem dX1_cable_61 : decode cX1_cable 61 = .ok (.iaload, 1) := by decide +kernel
theorem dX1_cable_62 : decode cX1_cable 62 = .ok (.iconst (-1), 1) := by decide +kernel
theorem dX1_cable_63 : decode cX1_cable 63 = .ok (.if_icmp .ne 14, 3) := by decide +kernel
theorem dX1_cable_66 : decode cX1_cable 66 = .ok (.aload_n 0, 1) := by decide +kernel
theorem dX1_cable_67 : decode cX1_cable 67 = .ok (.getfield 16, 3) := by decide +kernel
theorem dX1_cable_70 : decode cX1_cable 70 = .ok (.iload 7, 2) := by decide +kernel
theorem dX1_cable_72 : decode cX1_cable 72 = .ok (.iaload, 1) := by decide +kernel
theorem dX1_cable_73 : decode cX1_cable 73 = .ok (.iconst (-1), 1) := by decide +kernel
theorem dX1_cable_74 : decode cX1_cable 74 = .ok (.if_icmp .eq 7, 3) := by decide +kernel
theorem dX1_cable_77 : decode cX1_cable 77 = .ok (.iconst 2, 1) := by decide +kernel
theorem dX1_cable_78 : decode cX1_cable 78 = .ok (.goto 4, 3) := by decide +kernel
theorem dX1_cable_81 : decode cX1_cable 81 = .ok (.iconst 0, 1) := by decide +kernel
theorem dX1_cable_82 : decode cX1_cable 82 = .ok (.putfield 43, 3) := by decide +kernel
theorem dX1_cable_85 : decode cX1_cable 85 = .ok (.aload_n 0, 1) := by decide +kernel
theorem dX1_cable_86 : decode cX1_cable 86 = .ok (.getfield 43, 3) := by decide +kernel
theorem dX1_cable_89 : decode cX1_cable 89 = .ok (.ifCond .le 5, 3) := by decide +kernel
theorem dX1_cable_92 : decode cX1_cable 92 = .ok (.iconst 0, 1) := by decide +kernel
theorem dX1_cable_93 : decode cX1_cable 93 = .ok (.ireturn, 1) := by decide +kernel
theorem dX1_cable_94 : decode cX1_cable 94 = .ok (.aload_n 0, 1) := by decide +kernel
theorem dX1_cable_95 : decode cX1_cable 95 = .ok (.getfield 16, 3) := by decide +kernel
theorem dX1_cable_98 : decode cX1_cable 98 = .ok (.iload 6, 2) := by decide +kernel
theorem dX1_cable_100 : decode cX1_cable 100 = .ok (.iload 7, 2) := by decide +kernel
theorem dX1_cable_102 : decode cX1_cable 102 = .ok (.iastore, 1) := by decide +kernel
theorem dX1_cable_103 : decode cX1_cable 103 = .ok (.aload_n 0, 1) := by decide +kernel
theorem dX1_cable_104 : decode cX1_cable 104 = .ok (.getfield 16, 3) := by decide +kernel
theorem dX1_cable_107 : decode cX1_cable 107 = .ok (.iload 7, 2) := by decide +kernel
theorem dX1_cable_109 : decode cX1_cable 109 = .ok (.iload 6, 2) := by decide +kernel
theorem dX1_cable_111 : decode cX1_cable 111 = .ok (.iastore, 1) := by decide +kernel
theorem dX1_cable_112 : decode cX1_cable 112 = .ok (.aload_n 0, 1) := by decide +kernel
theorem dX1_cable_113 : decode cX1_cable 113 = .ok (.getfield 19, 3) := by decide +kernel
theorem dX1_cable_116 : decode cX1_cable 116 = .ok (.iload 6, 2) := by decide +kernel
theorem dX1_cable_118 : decode cX1_cable 118 = .ok (.iload 5, 2) := by decide +kernel
theorem dX1_cable_120 : decode cX1_cable 120 = .ok (.iastore, 1) := by decide +kernel
theorem dX1_cable_121 : decode cX1_cable 121 = .ok (.aload_n 0, 1) := by decide +kernel
theorem dX1_cable_122 : decode cX1_cable 122 = .ok (.getfield 19, 3) := by decide +kernel
theorem dX1_cable_125 : decode cX1_cable 125 = .ok (.iload 7, 2) := by decide +kernel
theorem dX1_cable_127 : decode cX1_cable 127 = .ok (.iload 5, 2) := by decide +kernel
theorem dX1_cable_129 : decode cX1_cable 129 = .ok (.iastore, 1) := by decide +kernel
theorem dX1_cable_130 : decode cX1_cable 130 = .ok (.aload_n 0, 1) := by decide +kernel
theorem dX1_cable_131 : decode cX1_cable 131 = .ok (.dup, 1) := by decide +kernel
theorem dX1_cable_132 : decode cX1_cable 132 = .ok (.getfield 61, 3) := by decide +kernel
theorem dX1_cable_135 : decode cX1_cable 135 = .ok (.iconst 1, 1) := by decide +kernel
theorem dX1_cable_136 : decode cX1_cable 136 = .ok (.iadd, 1) := by decide +kernel
theorem dX1_cable_137 : decode cX1_cable 137 = .ok (.putfield 61, 3) := by decide +kernel
theorem dX1_cable_140 : decode cX1_cable 140 = .ok (.aload_n 0, 1) := by decide +kernel
theorem dX1_cable_141 : decode cX1_cable 141 = .ok (.getfield 61, 3) := by decide +kernel
theorem dX1_cable_144 : decode cX1_cable 144 = .ok (.ireturn, 1) := by decide +kernel
set_option maxRecDepth 20000 in
theorem ggX1_hasCable_X1_isPort : GoodIn wsX1_hasCable wsX1_isPort := goodIn_r _ [6, 7, 8, 5, 9] (by decide +kernel) (by decide +kernel)
set_option maxRecDepth 20000 in
theorem gX1_hasCable_X1_isPort : GoodIn wsX1_hasCable (va_wsS RX1 51 yX1_isPort wsX1_isPort) := goodIn_app (goodIn_of _ (by decide +kernel)) ggX1_hasCable_X1_isPort
theorem dX1_hasCable_0 : decode cX1_hasCable 0 = .ok (.aload_n 0, 1) := by decide +kernel
theorem dX1_hasCable_1 : decode cX1_hasCable 1 = .ok (.iload_n 1, 1) := by decide +kernel
theorem dX1_hasCable_2 : decode cX1_hasCable 2 = .ok (.iload_n 2, 1) := by decide +kernel
theorem dX1_hasCable_3 : decode cX1_hasCable 3 = .ok (.invokestatic 51, 3) := by decide +kernel
theorem dX1_hasCable_6 : decode cX1_hasCable 6 = .ok (.ifCond .ne 7, 3) := by decide +kernel
theorem dX1_hasCable_9 : decode cX1_hasCable 9 = .ok (.iconst 1, 1) := by decide +kernel
theorem dX1_hasCable_10 : decode cX1_hasCable 10 = .ok (.goto 23, 3) := by decide +kernel
theorem dX1_hasCable_13 : decode cX1_hasCable 13 = .ok (.aload_n 0, 1) := by decide +kernel
theorem dX1_hasCable_14 : decode cX1_hasCable 14 = .ok (.getfield 16, 3) := by decide +kernel
theorem dX1_hasCable_17 : decode cX1_hasCable 17 = .ok (.bipush 6, 2) := by decide +kernel
theorem dX1_hasCable_19 : decode cX1_hasCable 19 = .ok (.iload_n 1, 1) := by decide +kernel
theorem dX1_hasCable_20 : decode cX1_hasCable 20 = .ok (.imul, 1) := by decide +kernel
theorem dX1_hasCable_21 : decode cX1_hasCable 21 = .ok (.iload_n 2, 1) := by decide +kernel
theorem dX1_hasCable_22 : decode cX1_hasCable 22 = .ok (.iadd, 1) := by decide +kernel
theorem dX1_hasCable_23 : decode cX1_hasCable 23 = .ok (.iaload, 1) := by decide +kernel
theorem dX1_hasCable_24 : decode cX1_hasCable 24 = .ok (.iconst (-1), 1) := by decide +kernel
theorem dX1_hasCable_25 : decode cX1_hasCable 25 = .ok (.if_icmp .ne 7, 3) := by decide +kernel
theorem dX1_hasCable_28 : decode cX1_hasCable 28 = .ok (.iconst 2, 1) := by decide +kernel
theorem dX1_hasCable_29 : decode cX1_hasCable 29 = .ok (.goto 4, 3) := by decide +kernel
theorem dX1_hasCable_32 : decode cX1_hasCable 32 = .ok (.iconst 0, 1) := by decide +kernel
theorem dX1_hasCable_33 : decode cX1_hasCable 33 = .ok (.putfield 43, 3) := by decide +kernel
theorem dX1_hasCable_36 : decode cX1_hasCable 36 = .ok (.aload_n 0, 1) := by decide +kernel
theorem dX1_hasCable_37 : decode cX1_hasCable 37 = .ok (.getfield 43, 3) := by decide +kernel
theorem dX1_hasCable_40 : decode cX1_hasCable 40 = .ok (.ifCond .ne 7, 3) := by decide +kernel
theorem dX1_hasCable_43 : decode cX1_hasCable 43 = .ok (.iconst 1, 1) := by decide +kernel
theorem dX1_hasCable_44 : decode cX1_hasCable 44 = .ok (.goto 4, 3) := by decide +kernel
theorem dX1_hasCable_47 : decode cX1_hasCable 47 = .ok (.iconst 0, 1) := by decide +kernel
theorem dX1_hasCable_48 : decode cX1_hasCable 48 = .ok (.ireturn, 1) := by decide +kernel
set_option maxRecDepth 20000 in
theorem ggX1_pull_X1_hasCable : GoodIn wsX1_pull wsX1_hasCable := goodIn_r _ [8, 1, 9, 10, 11, 7, 12, 13, 14, 15, 16, 17, 18, 19, 20, 21, 22, 23, 24, 25, 26, 27, 28, 29, 30] (by decide +kernel) (by decide +kernel)
set_option maxRecDepth 20000 in
theorem gX1_pull_X1_hasCable : GoodIn wsX1_pull (wsV RX1 64 RX1 yX1_hasCable wsX1_hasCable) := goodIn_app (goodIn_of _ (by decide +kernel)) ggX1_pull_X1_hasCable
theorem dX1_pull_0 : decode cX1_pull 0 = .ok (.aload_n 0, 1) := by decide +kernel
theorem dX1_pull_1 : decode cX1_pull 1 = .ok (.iload_n 1, 1) := by decide +kernel
theorem dX1_pull_2 : decode cX1_pull 2 = .ok (.iload_n 2, 1) := by decide +kernel
theorem dX1_pull_3 : decode cX1_pull 3 = .ok (.invokevirtual 64, 3) := by decide +kernel
theorem dX1_pull_6 : decode cX1_pull 6 = .ok (.ifCond .ne 5, 3) := by decide +kernel
theorem dX1_pull_9 : decode cX1_pull 9 = .ok (.iconst 0, 1) := by decide +kernel
theorem dX1_pull_10 : decode cX1_pull 10 = .ok (.ireturn, 1) := by decide +kernel
theorem dX1_pull_11 : decode cX1_pull 11 = .ok (.bipush 6, 2) := by decide +kernel
theorem dX1_pull_13 : decode cX1_pull 13 = .ok (.iload_n 1, 1) := by decide +kernel
theorem dX1_pull_14 : decode cX1_pull 14 = .ok (.imul, 1) := by decide +kernel
theorem dX1_pull_15 : decode cX1_pull 15 = .ok (.iload_n 2, 1) := by decide +kernel
theorem dX1_pull_16 : decode cX1_pull 16 = .ok (.iadd, 1) := by decide +kernel
theorem dX1_pull_17 : decode cX1_pull 17 = .ok (.istore_n 3, 1) := by decide +kernel
theorem dX1_pull_18 : decode cX1_pull 18 = .ok (.aload_n 0, 1) := by decide +kernel
theorem dX1_pull_19 : decode cX1_pull 19 = .ok (.getfield 16, 3) := by decide +kernel
theorem dX1_pull_22 : decode cX1_pull 22 = .ok (.aload_n 0, 1) := by decide +kernel
theorem dX1_pull_23 : decode cX1_pull 23 = .ok (.getfield 16, 3) := by decide +kernel
theorem dX1_pull_26 : decode cX1_pull 26 = .ok (.iload_n 3, 1) := by decide +kernel
theorem dX1_pull_27 : decode cX1_pull 27 = .ok (.iaload, 1) := by decide +kernel
theorem dX1_pull_28 : decode cX1_pull 28 = .ok (.iconst (-1), 1) := by decide +kernel
theorem dX1_pull_29 : decode cX1_pull 29 = .ok (.iastore, 1) := by decide +kernel
theorem dX1_pull_30 : decode cX1_pull 30 = .ok (.aload_n 0, 1) := by decide +kernel
theorem dX1_pull_31 : decode cX1_pull 31 = .ok (.getfield 16, 3) := by decide +kernel
theorem dX1_pull_34 : decode cX1_pull 34 = .ok (.iload_n 3, 1) := by decide +kernel
theorem dX1_pull_35 : decode cX1_pull 35 = .ok (.iconst (-1), 1) := by decide +kernel
theorem dX1_pull_36 : decode cX1_pull 36 = .ok (.iastore, 1) := by decide +kernel
theorem dX1_pull_37 : decode cX1_pull 37 = .ok (.aload_n 0, 1) := by decide +kernel
theorem dX1_pull_38 : decode cX1_pull 38 = .ok (.dup, 1) := by decide +kernel
theorem dX1_pull_39 : decode cX1_pull 39 = .ok (.getfield 61, 3) := by decide +kernel
theorem dX1_pull_42 : decode cX1_pull 42 = .ok (.iconst 1, 1) := by decide +kernel
theorem dX1_pull_43 : decode cX1_pull 43 = .ok (.isub, 1) := by decide +kernel
theorem dX1_pull_44 : decode cX1_pull 44 = .ok (.putfield 61, 3) := by decide +kernel
theorem dX1_pull_47 : decode cX1_pull 47 = .ok (.aload_n 0, 1) := by decide +kernel
theorem dX1_pull_48 : decode cX1_pull 48 = .ok (.getfield 19, 3) := by decide +kernel
theorem dX1_pull_51 : decode cX1_pull 51 = .ok (.iload_n 3, 1) := by decide +kernel
theorem dX1_pull_52 : decode cX1_pull 52 = .ok (.iaload, 1) := by decide +kernel
theorem dX1_pull_53 : decode cX1_pull 53 = .ok (.ireturn, 1) := by decide +kernel
theorem dX1_tree_0 : decode cX1_tree 0 = .ok (.aload_n 0, 1) := by decide +kernel
theorem dX1_tree_1 : decode cX1_tree 1 = .ok (.iconst 0, 1) := by decide +kernel
theorem dX1_tree_2 : decode cX1_tree 2 = .ok (.putfield 43, 3) := by decide +kernel
theorem dX1_tree_5 : decode cX1_tree 5 = .ok (.aload_n 0, 1) := by decide +kernel
theorem dX1_tree_6 : decode cX1_tree 6 = .ok (.getfield 67, 3) := by decide +kernel
theorem dX1_tree_9 : decode cX1_tree 9 = .ok (.istore_n 2, 1) := by decide +kernel
theorem dX1_tree_10 : decode cX1_tree 10 = .ok (.aload_n 0, 1) := by decide +kernel
theorem dX1_tree_11 : decode cX1_tree 11 = .ok (.iload_n 1, 1) := by decide +kernel
theorem dX1_tree_12 : decode cX1_tree 12 = .ok (.putfield 67, 3) := by decide +kernel
theorem dX1_tree_15 : decode cX1_tree 15 = .ok (.iload_n 2, 1) := by decide +kernel
theorem dX1_tree_16 : decode cX1_tree 16 = .ok (.ireturn, 1) := by decide +kernel
set_option maxRecDepth 20000 in
theorem ggX1_note_X1_isPort : GoodIn wsX1_note wsX1_isPort := goodIn_r _ [6, 7, 8, 5, 9] (by decide +kernel) (by decide +kernel)
set_option maxRecDepth 20000 in
theorem gX1_note_X1_isPort : GoodIn wsX1_note (va_wsS RX1 51 yX1_isPort wsX1_isPort) := goodIn_app (goodIn_of _ (by decide +kernel)) ggX1_note_X1_isPort
theorem dX1_note_0 : decode cX1_note 0 = .ok (.aload_n 0, 1) := by decide +kernel
theorem dX1_note_1 : decode cX1_note 1 = .ok (.iload_n 1, 1) := by decide +kernel
theorem dX1_note_2 : decode cX1_note 2 = .ok (.iload_n 2, 1) := by decide +kernel
theorem dX1_note_3 : decode cX1_note 3 = .ok (.invokestatic 51, 3) := by decide +kernel
theorem dX1_note_6 : decode cX1_note 6 = .ok (.ifCond .eq 17, 3) := by decide +kernel
theorem dX1_note_9 : decode cX1_note 9 = .ok (.iload_n 3, 1) := by decide +kernel
theorem dX1_note_10 : decode cX1_note 10 = .ok (.iconst (-1), 1) := by decide +kernel
theorem dX1_note_11 : decode cX1_note 11 = .ok (.if_icmp .eq 16, 3) := by decide +kernel
theorem dX1_note_14 : decode cX1_note 14 = .ok (.iload_n 3, 1) := by decide +kernel
theorem dX1_note_15 : decode cX1_note 15 = .ok (.iload 4, 2) := by decide +kernel
theorem dX1_note_17 : decode cX1_note 17 = .ok (.invokestatic 51, 3) := by decide +kernel
theorem dX1_note_20 : decode cX1_note 20 = .ok (.ifCond .ne 7, 3) := by decide +kernel
theorem dX1_note_23 : decode cX1_note 23 = .ok (.iconst 1, 1) := by decide +kernel
theorem dX1_note_24 : decode cX1_note 24 = .ok (.goto 4, 3) := by decide +kernel
theorem dX1_note_27 : decode cX1_note 27 = .ok (.iconst 0, 1) := by decide +kernel
theorem dX1_note_28 : decode cX1_note 28 = .ok (.putfield 43, 3) := by decide +kernel
theorem dX1_note_31 : decode cX1_note 31 = .ok (.aload_n 0, 1) := by decide +kernel
theorem dX1_note_32 : decode cX1_note 32 = .ok (.getfield 43, 3) := by decide +kernel
theorem dX1_note_35 : decode cX1_note 35 = .ok (.ifCond .le 5, 3) := by decide +kernel
theorem dX1_note_38 : decode cX1_note 38 = .ok (.iconst 0, 1) := by decide +kernel
theorem dX1_note_39 : decode cX1_note 39 = .ok (.ireturn, 1) := by decide +kernel
theorem dX1_note_40 : decode cX1_note 40 = .ok (.bipush 6, 2) := by decide +kernel
theorem dX1_note_42 : decode cX1_note 42 = .ok (.iload_n 1, 1) := by decide +kernel
theorem dX1_note_43 : decode cX1_note 43 = .ok (.imul, 1) := by decide +kernel
theorem dX1_note_44 : decode cX1_note 44 = .ok (.iload_n 2, 1) := by decide +kernel
theorem dX1_note_45 : decode cX1_note 45 = .ok (.iadd, 1) := by decide +kernel
theorem dX1_note_46 : decode cX1_note 46 = .ok (.istore 5, 2) := by decide +kernel
theorem dX1_note_48 : decode cX1_note 48 = .ok (.aload_n 0, 1) := by decide +kernel
theorem dX1_note_49 : decode cX1_note 49 = .ok (.getfield 22, 3) := by decide +kernel
theorem dX1_note_52 : decode cX1_note 52 = .ok (.iload 5, 2) := by decide +kernel
theorem dX1_note_54 : decode cX1_note 54 = .ok (.iaload, 1) := by decide +kernel
theorem dX1_note_55 : decode cX1_note 55 = .ok (.iconst (-1), 1) := by decide +kernel
theorem dX1_note_56 : decode cX1_note 56 = .ok (.if_icmp .eq 7, 3) := by decide +kernel
theorem dX1_note_59 : decode cX1_note 59 = .ok (.iconst 1, 1) := by decide +kernel
theorem dX1_note_60 : decode cX1_note 60 = .ok (.goto 4, 3) := by decide +kernel
theorem dX1_note_63 : decode cX1_note 63 = .ok (.iconst 0, 1) := by decide +kernel
theorem dX1_note_64 : decode cX1_note 64 = .ok (.istore 6, 2) := by decide +kernel
theorem dX1_note_66 : decode cX1_note 66 = .ok (.aload_n 0, 1) := by decide +kernel
theorem dX1_note_67 : decode cX1_note 67 = .ok (.getfield 22, 3) := by decide +kernel
theorem dX1_note_70 : decode cX1_note 70 = .ok (.iload 5, 2) := by decide +kernel
theorem dX1_note_72 : decode cX1_note 72 = .ok (.iload_n 3, 1) := by decide +kernel
theorem dX1_note_73 : decode cX1_note 73 = .ok (.iconst (-1), 1) := by decide +kernel
theorem dX1_note_74 : decode cX1_note 74 = .ok (.if_icmp .ne 7, 3) := by decide +kernel
theorem dX1_note_77 : decode cX1_note 77 = .ok (.iconst (-1), 1) := by decide +kernel
theorem dX1_note_78 : decode cX1_note 78 = .ok (.goto 10, 3) := by decide +kernel
theorem dX1_note_81 : decode cX1_note 81 = .ok (.bipush 6, 2) := by decide +kernel
theorem dX1_note_83 : decode cX1_note 83 = .ok (.iload_n 3, 1) := by decide +kernel
theorem dX1_note_84 : decode cX1_note 84 = .ok (.imul, 1) := by decide +kernel
theorem dX1_note_85 : decode cX1_note 85 = .ok (.iload 4, 2) := by decide +kernel
theorem dX1_note_87 : decode cX1_note 87 = .ok (.iadd, 1) := by decide +kernel
theorem dX1_note_88 : decode cX1_note 88 = .ok (.iastore, 1) := by decide +kernel
theorem dX1_note_89 : decode cX1_note 89 = .ok (.iload 6, 2) := by decide +kernel
theorem dX1_note_91 : decode cX1_note 91 = .ok (.ireturn, 1) := by decide +kernel
theorem dX1_layTree_0 : decode cX1_layTree 0 = .ok (.iconst 0, 1) := by decide +kernel
theorem dX1_layTree_1 : decode cX1_layTree 1 = .ok (.istore_n 1, 1) := by decide +kernel
theorem dX1_layTree_2 : decode cX1_layTree 2 = .ok (.iload_n 1, 1) := by decide +kernel
theorem dX1_layTree_3 : decode cX1_layTree 3 = .ok (.bipush 6, 2) := by decide +kernel
theorem dX1_layTree_5 : decode cX1_layTree 5 = .ok (.if_icmp .ge 16, 3) := by decide +kernel
theorem dX1_layTree_8 : decode cX1_layTree 8 = .ok (.aload_n 0, 1) := by decide +kernel
theorem dX1_layTree_9 : decode cX1_layTree 9 = .ok (.getfield 25, 3) := by decide +kernel
theorem dX1_layTree_12 : decode cX1_layTree 12 = .ok (.iload_n 1, 1) := by decide +kernel
theorem dX1_layTree_13 : decode cX1_layTree 13 = .ok (.iload_n 1, 1) := by decide +kernel
theorem dX1_layTree_14 : decode cX1_layTree 14 = .ok (.iastore, 1) := by decide +kernel
theorem dX1_layTree_15 : decode cX1_layTree 15 = .ok (.iinc 1 1, 3) := by decide +kernel
theorem dX1_layTree_18 : decode cX1_layTree 18 = .ok (.goto (-16), 3) := by decide +kernel
theorem dX1_layTree_21 : decode cX1_layTree 21 = .ok (.iconst 0, 1) := by decide +kernel
theorem dX1_layTree_22 : decode cX1_layTree 22 = .ok (.istore_n 1, 1) := by decide +kernel
theorem dX1_layTree_23 : decode cX1_layTree 23 = .ok (.iload_n 1, 1) := by decide +kernel
theorem dX1_layTree_24 : decode cX1_layTree 24 = .ok (.sipush 216, 3) := by decide +kernel
theorem dX1_layTree_27 : decode cX1_layTree 27 = .ok (.if_icmp .ge 86, 3) := by decide +kernel
theorem dX1_layTree_30 : decode cX1_layTree 30 = .ok (.iload_n 1, 1) := by decide +kernel
theorem dX1_layTree_31 : decode cX1_layTree 31 = .ok (.bipush 36, 2) := by decide +kernel
theorem dX1_layTree_33 : decode cX1_layTree 33 = .ok (.irem, 1) := by decide +kernel
theorem dX1_layTree_34 : decode cX1_layTree 34 = .ok (.istore_n 2, 1) := by decide +kernel
theorem dX1_layTree_35 : decode cX1_layTree 35 = .ok (.aload_n 0, 1) := by decide +kernel
theorem dX1_layTree_36 : decode cX1_layTree 36 = .ok (.getfield 16, 3) := by decide +kernel
theorem dX1_layTree_39 : decode cX1_layTree 39 = .ok (.iload_n 2, 1) := by decide +kernel
theorem dX1_layTree_40 : decode cX1_layTree 40 = .ok (.iaload, 1) := by decide +kernel
theorem dX1_layTree_41 : decode cX1_layTree 41 = .ok (.iconst (-1), 1) := by decide +kernel
theorem dX1_layTree_42 : decode cX1_layTree 42 = .ok (.if_icmp .ne 7, 3) := by decide +kernel
theorem dX1_layTree_45 : decode cX1_layTree 45 = .ok (.iload_n 2, 1) := by decide +kernel
theorem dX1_layTree_46 : decode cX1_layTree 46 = .ok (.goto 9, 3) := by decide +kernel
theorem dX1_layTree_49 : decode cX1_layTree 49 = .ok (.aload_n 0, 1) := by decide +kernel
theorem dX1_layTree_50 : decode cX1_layTree 50 = .ok (.getfield 16, 3) := by decide +kernel
theorem dX1_layTree_53 : decode cX1_layTree 53 = .ok (.iload_n 2, 1) := by decide +kernel
theorem dX1_layTree_54 : decode cX1_layTree 54 = .ok (.iaload, 1) := by decide +kernel
theorem dX1_layTree_55 : decode cX1_layTree 55 = .ok (.istore_n 3, 1) := by decide +kernel
theorem dX1_layTree_56 : decode cX1_layTree 56 = .ok (.aload_n 0, 1) := by decide +kernel
theorem dX1_layTree_57 : decode cX1_layTree 57 = .ok (.getfield 25, 3) := by decide +kernel
theorem dX1_layTree_60 : decode cX1_layTree 60 = .ok (.iload_n 2, 1) := by decide +kernel
theorem dX1_layTree_61 : decode cX1_layTree 61 = .ok (.bipush 6, 2) := by decide +kernel
theorem dX1_layTree_63 : decode cX1_layTree 63 = .ok (.idiv, 1) := by decide +kernel
theorem dX1_layTree_64 : decode cX1_layTree 64 = .ok (.aload_n 0, 1) := by decide +kernel
theorem dX1_layTree_65 : decode cX1_layTree 65 = .ok (.getfield 25, 3) := by decide +kernel
theorem dX1_layTree_68 : decode cX1_layTree 68 = .ok (.iload_n 3, 1) := by decide +kernel
theorem dX1_layTree_69 : decode cX1_layTree 69 = .ok (.bipush 6, 2) := by decide +kernel
theorem dX1_layTree_71 : decode cX1_layTree 71 = .ok (.idiv, 1) := by decide +kernel
theorem dX1_layTree_72 : decode cX1_layTree 72 = .ok (.iaload, 1) := by decide +kernel
theorem dX1_layTree_73 : decode cX1_layTree 73 = .ok (.aload_n 0, 1) := by decide +kernel
theorem dX1_layTree_74 : decode cX1_layTree 74 = .ok (.getfield 25, 3) := by decide +kernel
theorem dX1_layTree_77 : decode cX1_layTree 77 = .ok (.iload_n 2, 1) := by decide +kernel
theorem dX1_layTree_78 : decode cX1_layTree 78 = .ok (.bipush 6, 2) := by decide +kernel
theorem dX1_layTree_80 : decode cX1_layTree 80 = .ok (.idiv, 1) := by decide +kernel
theorem dX1_layTree_81 : decode cX1_layTree 81 = .ok (.iaload, 1) := by decide +kernel
theorem dX1_layTree_82 : decode cX1_layTree 82 = .ok (.if_icmp .ge 15, 3) := by decide +kernel
theorem dX1_layTree_85 : decode cX1_layTree 85 = .ok (.aload_n 0, 1) := by decide +kernel
theorem dX1_layTree_86 : decode cX1_layTree 86 = .ok (.getfield 25, 3) := by decide +kernel
theorem dX1_layTree_89 : decode cX1_layTree 89 = .ok (.iload_n 3, 1) := by decide +kernel
theorem dX1_layTree_90 : decode cX1_layTree 90 = .ok (.bipush 6, 2) := by decide +kernel
theorem dX1_layTree_92 : decode cX1_layTree 92 = .ok (.idiv, 1) := by decide +kernel
theorem dX1_layTree_93 : decode cX1_layTree 93 = .ok (.iaload, 1) := by decide +kernel
theorem dX1_layTree_94 : decode cX1_layTree 94 = .ok (.goto 12, 3) := by decide +kernel
theorem dX1_layTree_97 : decode cX1_layTree 97 = .ok (.aload_n 0, 1) := by decide +kernel
theorem dX1_layTree_98 : decode cX1_layTree 98 = .ok (.getfield 25, 3) := by decide +kernel
theorem dX1_layTree_101 : decode cX1_layTree 101 = .ok (.iload_n 2, 1) := by decide +kernel
theorem dX1_layTree_102 : decode cX1_layTree 102 = .ok (.bipush 6, 2) := by decide +kernel
theorem dX1_layTree_104 : decode cX1_layTree 104 = .ok (.idiv, 1) := by decide +kernel
theorem dX1_layTree_105 : decode cX1_layTree 105 = .ok (.iaload, 1) := by decide +kernel
theorem dX1_layTree_106 : decode cX1_layTree 106 = .ok (.iastore, 1) := by decide +kernel
theorem dX1_layTree_107 : decode cX1_layTree 107 = .ok (.iinc 1 1, 3) := by decide +kernel
theorem dX1_layTree_110 : decode cX1_layTree 110 = .ok (.goto (-87), 3) := by decide +kernel
theorem dX1_layTree_113 : decode cX1_layTree 113 = .ok (.iconst 0, 1) := by decide +kernel
theorem dX1_layTree_114 : decode cX1_layTree 114 = .ok (.istore_n 1, 1) := by decide +kernel
theorem dX1_layTree_115 : decode cX1_layTree 115 = .ok (.iload_n 1, 1) := by decide +kernel
theorem dX1_layTree_116 : decode cX1_layTree 116 = .ok (.bipush 6, 2) := by decide +kernel
theorem dX1_layTree_118 : decode cX1_layTree 118 = .ok (.if_icmp .ge 31, 3) := by decide +kernel
theorem dX1_layTree_121 : decode cX1_layTree 121 = .ok (.aload_n 0, 1) := by decide +kernel
theorem dX1_layTree_122 : decode cX1_layTree 122 = .ok (.getfield 31, 3) := by decide +kernel
theorem dX1_layTree_125 : decode cX1_layTree 125 = .ok (.iload_n 1, 1) := by decide +kernel
theorem dX1_layTree_126 : decode cX1_layTree 126 = .ok (.aload_n 0, 1) := by decide +kernel
theorem dX1_layTree_127 : decode cX1_layTree 127 = .ok (.getfield 25, 3) := by decide +kernel
theorem dX1_layTree_130 : decode cX1_layTree 130 = .ok (.iload_n 1, 1) := by decide +kernel
theorem dX1_layTree_131 : decode cX1_layTree 131 = .ok (.iaload, 1) := by decide +kernel
theorem dX1_layTree_132 : decode cX1_layTree 132 = .ok (.iload_n 1, 1) := by decide +kernel
theorem dX1_layTree_133 : decode cX1_layTree 133 = .ok (.if_icmp .ne 7, 3) := by decide +kernel
theorem dX1_layTree_136 : decode cX1_layTree 136 = .ok (.iconst 0, 1) := by decide +kernel
theorem dX1_layTree_137 : decode cX1_layTree 137 = .ok (.goto 5, 3) := by decide +kernel
theorem dX1_layTree_140 : decode cX1_layTree 140 = .ok (.ldc 71, 2) := by decide +kernel
theorem dX1_layTree_142 : decode cX1_layTree 142 = .ok (.iastore, 1) := by decide +kernel
theorem dX1_layTree_143 : decode cX1_layTree 143 = .ok (.iinc 1 1, 3) := by decide +kernel
theorem dX1_layTree_146 : decode cX1_layTree 146 = .ok (.goto (-31), 3) := by decide +kernel
theorem dX1_layTree_149 : decode cX1_layTree 149 = .ok (.iconst 0, 1) := by decide +kernel
theorem dX1_layTree_150 : decode cX1_layTree 150 = .ok (.istore_n 1, 1) := by decide +kernel
theorem dX1_layTree_151 : decode cX1_layTree 151 = .ok (.iload_n 1, 1) := by decide +kernel
theorem dX1_layTree_152 : decode cX1_layTree 152 = .ok (.sipush 216, 3) := by decide +kernel
theorem dX1_layTree_155 : decode cX1_layTree 155 = .ok (.if_icmp .ge 86, 3) := by decide +kernel
theorem dX1_layTree_158 : decode cX1_layTree 158 = .ok (.iload_n 1, 1) := by decide +kernel
theorem dX1_layTree_159 : decode cX1_layTree 159 = .ok (.bipush 36, 2) := by decide +kernel
theorem dX1_layTree_161 : decode cX1_layTree 161 = .ok (.irem, 1) := by decide +kernel
theorem dX1_layTree_162 : decode cX1_layTree 162 = .ok (.istore_n 2, 1) := by decide +kernel
theorem dX1_layTree_163 : decode cX1_layTree 163 = .ok (.aload_n 0, 1) := by decide +kernel
theorem dX1_layTree_164 : decode cX1_layTree 164 = .ok (.getfield 16, 3) := by decide +kernel
theorem dX1_layTree_167 : decode cX1_layTree 167 = .ok (.iload_n 2, 1) := by decide +kernel
theorem dX1_layTree_168 : decode cX1_layTree 168 = .ok (.iaload, 1) := by decide +kernel
theorem dX1_layTree_169 : decode cX1_layTree 169 = .ok (.iconst (-1), 1) := by decide +kernel
theorem dX1_layTree_170 : decode cX1_layTree 170 = .ok (.if_icmp .ne 8, 3) := by decide +kernel
theorem dX1_layTree_173 : decode cX1_layTree 173 = .ok (.ldc 71, 2) := by decide +kernel
theorem dX1_layTree_175 : decode cX1_layTree 175 = .ok (.goto 24, 3) := by decide +kernel
theorem dX1_layTree_178 : decode cX1_layTree 178 = .ok (.aload_n 0, 1) := by decide +kernel
theorem dX1_layTree_179 : decode cX1_layTree 179 = .ok (.getfield 19, 3) := by decide +kernel
theorem dX1_layTree_182 : decode cX1_layTree 182 = .ok (.iload_n 2, 1) := by decide +kernel
theorem dX1_layTree_183 : decode cX1_layTree 183 = .ok (.iaload, 1) := by decide +kernel
theorem dX1_layTree_184 : decode cX1_layTree 184 = .ok (.aload_n 0, 1) := by decide +kernel
theorem dX1_layTree_185 : decode cX1_layTree 185 = .ok (.getfield 31, 3) := by decide +kernel
theorem dX1_layTree_188 : decode cX1_layTree 188 = .ok (.aload_n 0, 1) := by decide +kernel
theorem dX1_layTree_189 : decode cX1_layTree 189 = .ok (.getfield 16, 3) := by decide +kernel
theorem dX1_layTree_192 : decode cX1_layTree 192 = .ok (.iload_n 2, 1) := by decide +kernel
theorem dX1_layTree_193 : decode cX1_layTree 193 = .ok (.iaload, 1) := by decide +kernel
theorem dX1_layTree_194 : decode cX1_layTree 194 = .ok (.bipush 6, 2) := by decide +kernel
theorem dX1_layTree_196 : decode cX1_layTree 196 = .ok (.idiv, 1) := by decide +kernel
theorem dX1_layTree_197 : decode cX1_layTree 197 = .ok (.iaload, 1) := by decide +kernel
theorem dX1_layTree_198 : decode cX1_layTree 198 = .ok (.iadd, 1) := by decide +kernel
theorem dX1_layTree_199 : decode cX1_layTree 199 = .ok (.istore_n 3, 1) := by decide +kernel
theorem dX1_layTree_200 : decode cX1_layTree 200 = .ok (.aload_n 0, 1) := by decide +kernel
theorem dX1_layTree_201 : decode cX1_layTree 201 = .ok (.getfield 31, 3) := by decide +kernel
theorem dX1_layTree_204 : decode cX1_layTree 204 = .ok (.iload_n 2, 1) := by decide +kernel
theorem dX1_layTree_205 : decode cX1_layTree 205 = .ok (.bipush 6, 2) := by decide +kernel
theorem dX1_layTree_207 : decode cX1_layTree 207 = .ok (.idiv, 1) := by decide +kernel
theorem dX1_layTree_208 : decode cX1_layTree 208 = .ok (.iload_n 3, 1) := by decide +kernel
theorem dX1_layTree_209 : decode cX1_layTree 209 = .ok (.aload_n 0, 1) := by decide +kernel
theorem dX1_layTree_210 : decode cX1_layTree 210 = .ok (.getfield 31, 3) := by decide +kernel
theorem dX1_layTree_213 : decode cX1_layTree 213 = .ok (.iload_n 2, 1) := by decide +kernel
theorem dX1_layTree_214 : decode cX1_layTree 214 = .ok (.bipush 6, 2) := by decide +kernel
theorem dX1_layTree_216 : decode cX1_layTree 216 = .ok (.idiv, 1) := by decide +kernel
theorem dX1_layTree_217 : decode cX1_layTree 217 = .ok (.iaload, 1) := by decide +kernel
theorem dX1_layTree_218 : decode cX1_layTree 218 = .ok (.if_icmp .ge 7, 3) := by decide +kernel
theorem dX1_layTree_221 : decode cX1_layTree 221 = .ok (.iload_n 3, 1) := by decide +kernel
theorem dX1_layTree_222 : decode cX1_layTree 222 = .ok (.goto 12, 3) := by decide +kernel
theorem dX1_layTree_225 : decode cX1_layTree 225 = .ok (.aload_n 0, 1) := by decide +kernel
theorem dX1_layTree_226 : decode cX1_layTree 226 = .ok (.getfield 31, 3) := by decide +kernel
theorem dX1_layTree_229 : decode cX1_layTree 229 = .ok (.iload_n 2, 1) := by decide +kernel
theorem dX1_layTree_230 : decode cX1_layTree 230 = .ok (.bipush 6, 2) := by decide +kernel
theorem dX1_layTree_232 : decode cX1_layTree 232 = .ok (.idiv, 1) := by decide +kernel
theorem dX1_layTree_233 : decode cX1_layTree 233 = .ok (.iaload, 1) := by decide +kernel
theorem dX1_layTree_234 : decode cX1_layTree 234 = .ok (.iastore, 1) := by decide +kernel
theorem dX1_layTree_235 : decode cX1_layTree 235 = .ok (.iinc 1 1, 3) := by decide +kernel
theorem dX1_layTree_238 : decode cX1_layTree 238 = .ok (.goto (-87), 3) := by decide +kernel
theorem dX1_layTree_241 : decode cX1_layTree 241 = .ok (.iconst 0, 1) := by decide +kernel
theorem dX1_layTree_242 : decode cX1_layTree 242 = .ok (.istore_n 1, 1) := by decide +kernel
theorem dX1_layTree_243 : decode cX1_layTree 243 = .ok (.iload_n 1, 1) := by decide +kernel
theorem dX1_layTree_244 : decode cX1_layTree 244 = .ok (.bipush 6, 2) := by decide +kernel
theorem dX1_layTree_246 : decode cX1_layTree 246 = .ok (.if_icmp .ge 162, 3) := by decide +kernel
theorem dX1_layTree_249 : decode cX1_layTree 249 = .ok (.aload_n 0, 1) := by decide +kernel
theorem dX1_layTree_250 : decode cX1_layTree 250 = .ok (.getfield 28, 3) := by decide +kernel
theorem dX1_layTree_253 : decode cX1_layTree 253 = .ok (.iload_n 1, 1) := by decide +kernel
theorem dX1_layTree_254 : decode cX1_layTree 254 = .ok (.iconst (-1), 1) := by decide +kernel
theorem dX1_layTree_255 : decode cX1_layTree 255 = .ok (.iastore, 1) := by decide +kernel
theorem dX1_layTree_256 : decode cX1_layTree 256 = .ok (.bipush 6, 2) := by decide +kernel
theorem dX1_layTree_258 : decode cX1_layTree 258 = .ok (.iload_n 1, 1) := by decide +kernel
theorem dX1_layTree_259 : decode cX1_layTree 259 = .ok (.imul, 1) := by decide +kernel
theorem dX1_layTree_260 : decode cX1_layTree 260 = .ok (.istore_n 2, 1) := by decide +kernel
theorem dX1_layTree_261 : decode cX1_layTree 261 = .ok (.iload_n 2, 1) := by decide +kernel
theorem dX1_layTree_262 : decode cX1_layTree 262 = .ok (.bipush 6, 2) := by decide +kernel
theorem dX1_layTree_264 : decode cX1_layTree 264 = .ok (.iload_n 1, 1) := by decide +kernel
theorem dX1_layTree_265 : decode cX1_layTree 265 = .ok (.imul, 1) := by decide +kernel
theorem dX1_layTree_266 : decode cX1_layTree 266 = .ok (.bipush 6, 2) := by decide +kernel
theorem dX1_layTree_268 : decode cX1_layTree 268 = .ok (.iadd, 1) := by decide +kernel
theorem dX1_layTree_269 : decode cX1_layTree 269 = .ok (.if_icmp .ge 133, 3) := by decide +kernel
theorem dX1_layTree_272 : decode cX1_layTree 272 = .ok (.aload_n 0, 1) := by decide +kernel
theorem dX1_layTree_273 : decode cX1_layTree 273 = .ok (.getfield 25, 3) := by decide +kernel
theorem dX1_layTree_276 : decode cX1_layTree 276 = .ok (.iload_n 1, 1) := by decide +kernel
theorem dX1_layTree_277 : decode cX1_layTree 277 = .ok (.iaload, 1) := by decide +kernel
theorem dX1_layTree_278 : decode cX1_layTree 278 = .ok (.iload_n 1, 1) := by decide +kernel
theorem dX1_layTree_279 : decode cX1_layTree 279 = .ok (.if_icmp .eq 123, 3) := by decide +kernel
theorem dX1_layTree_282 : decode cX1_layTree 282 = .ok (.aload_n 0, 1) := by decide +kernel
theorem dX1_layTree_283 : decode cX1_layTree 283 = .ok (.getfield 16, 3) := by decide +kernel
theorem dX1_layTree_286 : decode cX1_layTree 286 = .ok (.iload_n 2, 1) := by decide +kernel
theorem dX1_layTree_287 : decode cX1_layTree 287 = .ok (.iaload, 1) := by decide +kernel
theorem dX1_layTree_288 : decode cX1_layTree 288 = .ok (.iconst (-1), 1) := by decide +kernel
theorem dX1_layTree_289 : decode cX1_layTree 289 = .ok (.if_icmp .eq 37, 3) := by decide +kernel
theorem dX1_layTree_292 : decode cX1_layTree 292 = .ok (.aload_n 0, 1) := by decide +kernel
theorem dX1_layTree_293 : decode cX1_layTree 293 = .ok (.getfield 19, 3) := by decide +kernel
theorem dX1_layTree_296 : decode cX1_layTree 296 = .ok (.iload_n 2, 1) := by decide +kernel
theorem dX1_layTree_297 : decode cX1_layTree 297 = .ok (.iaload, 1) := by decide +kernel
theorem dX1_layTree_298 : decode cX1_layTree 298 = .ok (.aload_n 0, 1) := by decide +kernel
theorem dX1_layTree_299 : decode cX1_layTree 299 = .ok (.getfield 31, 3) := by decide +kernel
theorem dX1_layTree_302 : decode cX1_layTree 302 = .ok (.aload_n 0, 1) := by decide +kernel
theorem dX1_layTree_303 : decode cX1_layTree 303 = .ok (.getfield 16, 3) := by decide +kernel
theorem dX1_layTree_306 : decode cX1_layTree 306 = .ok (.iload_n 2, 1) := by decide +kernel
theorem dX1_layTree_307 : decode cX1_layTree 307 = .ok (.iaload, 1) := by decide +kernel
theorem dX1_layTree_308 : decode cX1_layTree 308 = .ok (.bipush 6, 2) := by decide +kernel
theorem dX1_layTree_310 : decode cX1_layTree 310 = .ok (.idiv, 1) := by decide +kernel
theorem dX1_layTree_311 : decode cX1_layTree 311 = .ok (.iaload, 1) := by decide +kernel
theorem dX1_layTree_312 : decode cX1_layTree 312 = .ok (.iadd, 1) := by decide +kernel
theorem dX1_layTree_313 : decode cX1_layTree 313 = .ok (.aload_n 0, 1) := by decide +kernel
theorem dX1_layTree_314 : decode cX1_layTree 314 = .ok (.getfield 31, 3) := by decide +kernel
theorem dX1_layTree_317 : decode cX1_layTree 317 = .ok (.iload_n 1, 1) := by decide +kernel
theorem dX1_layTree_318 : decode cX1_layTree 318 = .ok (.iaload, 1) := by decide +kernel
theorem dX1_layTree_319 : decode cX1_layTree 319 = .ok (.if_icmp .ne 7, 3) := by decide +kernel
theorem dX1_layTree_322 : decode cX1_layTree 322 = .ok (.iconst 1, 1) := by decide +kernel
theorem dX1_layTree_323 : decode cX1_layTree 323 = .ok (.goto 4, 3) := by decide +kernel
theorem dX1_layTree_326 : decode cX1_layTree 326 = .ok (.iconst 0, 1) := by decide +kernel
theorem dX1_layTree_327 : decode cX1_layTree 327 = .ok (.istore_n 3, 1) := by decide +kernel
theorem dX1_layTree_328 : decode cX1_layTree 328 = .ok (.iload_n 3, 1) := by decide +kernel
theorem dX1_layTree_329 : decode cX1_layTree 329 = .ok (.ifCond .eq 43, 3) := by decide +kernel
theorem dX1_layTree_332 : decode cX1_layTree 332 = .ok (.aload_n 0, 1) := by decide +kernel
theorem dX1_layTree_333 : decode cX1_layTree 333 = .ok (.getfield 28, 3) := by decide +kernel
theorem dX1_layTree_336 : decode cX1_layTree 336 = .ok (.iload_n 1, 1) := by decide +kernel
theorem dX1_layTree_337 : decode cX1_layTree 337 = .ok (.iaload, 1) := by decide +kernel
theorem dX1_layTree_338 : decode cX1_layTree 338 = .ok (.iconst (-1), 1) := by decide +kernel
theorem dX1_layTree_339 : decode cX1_layTree 339 = .ok (.if_icmp .eq 29, 3) := by decide +kernel
theorem dX1_layTree_342 : decode cX1_layTree 342 = .ok (.aload_n 0, 1) := by decide +kernel
theorem dX1_layTree_343 : decode cX1_layTree 343 = .ok (.getfield 16, 3) := by decide +kernel
theorem dX1_layTree_346 : decode cX1_layTree 346 = .ok (.iload_n 2, 1) := by decide +kernel
theorem dX1_layTree_347 : decode cX1_layTree 347 = .ok (.iaload, 1) := by decide +kernel
theorem dX1_layTree_348 : decode cX1_layTree 348 = .ok (.bipush 6, 2) := by decide +kernel
theorem dX1_layTree_350 : decode cX1_layTree 350 = .ok (.idiv, 1) := by decide +kernel
theorem dX1_layTree_351 : decode cX1_layTree 351 = .ok (.aload_n 0, 1) := by decide +kernel
theorem dX1_layTree_352 : decode cX1_layTree 352 = .ok (.getfield 16, 3) := by decide +kernel
theorem dX1_layTree_355 : decode cX1_layTree 355 = .ok (.aload_n 0, 1) := by decide +kernel
theorem dX1_layTree_356 : decode cX1_layTree 356 = .ok (.getfield 28, 3) := by decide +kernel
theorem dX1_layTree_359 : decode cX1_layTree 359 = .ok (.iload_n 1, 1) := by decide +kernel
theorem dX1_layTree_360 : decode cX1_layTree 360 = .ok (.iaload, 1) := by decide +kernel
theorem dX1_layTree_361 : decode cX1_layTree 361 = .ok (.iaload, 1) := by decide +kernel
theorem dX1_layTree_362 : decode cX1_layTree 362 = .ok (.bipush 6, 2) := by decide +kernel
theorem dX1_layTree_364 : decode cX1_layTree 364 = .ok (.idiv, 1) := by decide +kernel
theorem dX1_layTree_365 : decode cX1_layTree 365 = .ok (.if_icmp .ge 7, 3) := by decide +kernel
theorem dX1_layTree_368 : decode cX1_layTree 368 = .ok (.iconst 1, 1) := by decide +kernel
theorem dX1_layTree_369 : decode cX1_layTree 369 = .ok (.goto 4, 3) := by decide +kernel
theorem dX1_layTree_372 : decode cX1_layTree 372 = .ok (.iconst 0, 1) := by decide +kernel
theorem dX1_layTree_373 : decode cX1_layTree 373 = .ok (.istore 4, 2) := by decide +kernel
theorem dX1_layTree_375 : decode cX1_layTree 375 = .ok (.aload_n 0, 1) := by decide +kernel
theorem dX1_layTree_376 : decode cX1_layTree 376 = .ok (.getfield 28, 3) := by decide +kernel
theorem dX1_layTree_379 : decode cX1_layTree 379 = .ok (.iload_n 1, 1) := by decide +kernel
theorem dX1_layTree_380 : decode cX1_layTree 380 = .ok (.iload 4, 2) := by decide +kernel
theorem dX1_layTree_382 : decode cX1_layTree 382 = .ok (.ifCond .eq 7, 3) := by decide +kernel
theorem dX1_layTree_385 : decode cX1_layTree 385 = .ok (.iload_n 2, 1) := by decide +kernel
theorem dX1_layTree_386 : decode cX1_layTree 386 = .ok (.goto 9, 3) := by decide +kernel
theorem dX1_layTree_389 : decode cX1_layTree 389 = .ok (.aload_n 0, 1) := by decide +kernel
theorem dX1_layTree_390 : decode cX1_layTree 390 = .ok (.getfield 28, 3) := by decide +kernel
theorem dX1_layTree_393 : decode cX1_layTree 393 = .ok (.iload_n 1, 1) := by decide +kernel
theorem dX1_layTree_394 : decode cX1_layTree 394 = .ok (.iaload, 1) := by decide +kernel
theorem dX1_layTree_395 : decode cX1_layTree 395 = .ok (.iastore, 1) := by decide +kernel
theorem dX1_layTree_396 : decode cX1_layTree 396 = .ok (.iinc 2 1, 3) := by decide +kernel
theorem dX1_layTree_399 : decode cX1_layTree 399 = .ok (.goto (-138), 3) := by decide +kernel
theorem dX1_layTree_402 : decode cX1_layTree 402 = .ok (.iinc 1 1, 3) := by decide +kernel
theorem dX1_layTree_405 : decode cX1_layTree 405 = .ok (.goto (-162), 3) := by decide +kernel
theorem dX1_layTree_408 : decode cX1_layTree 408 = .ok (.return_, 1) := by decide +kernel
theorem dX1_isLive_0 : decode cX1_isLive 0 = .ok (.aload_n 0, 1) := by decide +kernel
theorem dX1_isLive_1 : decode cX1_isLive 1 = .ok (.getfield 16, 3) := by decide +kernel
theorem dX1_isLive_4 : decode cX1_isLive 4 = .ok (.iload_n 1, 1) := by decide +kernel
theorem dX1_isLive_5 : decode cX1_isLive 5 = .ok (.iaload, 1) := by decide +kernel
theorem dX1_isLive_6 : decode cX1_isLive 6 = .ok (.iconst (-1), 1) := by decide +kernel
theorem dX1_isLive_7 : decode cX1_isLive 7 = .ok (.if_icmp .eq 50, 3) := by decide +kernel
theorem dX1_isLive_10 : decode cX1_isLive 10 = .ok (.aload_n 0, 1) := by decide +kernel
theorem dX1_isLive_11 : decode cX1_isLive 11 = .ok (.getfield 67, 3) := by decide +kernel
theorem dX1_isLive_14 : decode cX1_isLive 14 = .ok (.ifCond .eq 39, 3) := by decide +kernel
theorem dX1_isLive_17 : decode cX1_isLive 17 = .ok (.aload_n 0, 1) := by decide +kernel
theorem dX1_isLive_18 : decode cX1_isLive 18 = .ok (.getfield 28, 3) := by decide +kernel
theorem dX1_isLive_21 : decode cX1_isLive 21 = .ok (.iload_n 1, 1) := by decide +kernel
theorem dX1_isLive_22 : decode cX1_isLive 22 = .ok (.bipush 6, 2) := by decide +kernel
theorem dX1_isLive_24 : decode cX1_isLive 24 = .ok (.idiv, 1) := by decide +kernel
theorem dX1_isLive_25 : decode cX1_isLive 25 = .ok (.iaload, 1) := by decide +kernel
theorem dX1_isLive_26 : decode cX1_isLive 26 = .ok (.iload_n 1, 1) := by decide +kernel
theorem dX1_isLive_27 : decode cX1_isLive 27 = .ok (.if_icmp .eq 26, 3) := by decide +kernel
theorem dX1_isLive_30 : decode cX1_isLive 30 = .ok (.aload_n 0, 1) := by decide +kernel
theorem dX1_isLive_31 : decode cX1_isLive 31 = .ok (.getfield 28, 3) := by decide +kernel
theorem dX1_isLive_34 : decode cX1_isLive 34 = .ok (.aload_n 0, 1) := by decide +kernel
theorem dX1_isLive_35 : decode cX1_isLive 35 = .ok (.getfield 16, 3) := by decide +kernel
theorem dX1_isLive_38 : decode cX1_isLive 38 = .ok (.iload_n 1, 1) := by decide +kernel
theorem dX1_isLive_39 : decode cX1_isLive 39 = .ok (.iaload, 1) := by decide +kernel
theorem dX1_isLive_40 : decode cX1_isLive 40 = .ok (.bipush 6, 2) := by decide +kernel
theorem dX1_isLive_42 : decode cX1_isLive 42 = .ok (.idiv, 1) := by decide +kernel
theorem dX1_isLive_43 : decode cX1_isLive 43 = .ok (.iaload, 1) := by decide +kernel
theorem dX1_isLive_44 : decode cX1_isLive 44 = .ok (.aload_n 0, 1) := by decide +kernel
theorem dX1_isLive_45 : decode cX1_isLive 45 = .ok (.getfield 16, 3) := by decide +kernel
theorem dX1_isLive_48 : decode cX1_isLive 48 = .ok (.iload_n 1, 1) := by decide +kernel
theorem dX1_isLive_49 : decode cX1_isLive 49 = .ok (.iaload, 1) := by decide +kernel
theorem dX1_isLive_50 : decode cX1_isLive 50 = .ok (.if_icmp .ne 7, 3) := by decide +kernel
theorem dX1_isLive_53 : decode cX1_isLive 53 = .ok (.iconst 1, 1) := by decide +kernel
theorem dX1_isLive_54 : decode cX1_isLive 54 = .ok (.goto 4, 3) := by decide +kernel
theorem dX1_isLive_57 : decode cX1_isLive 57 = .ok (.iconst 0, 1) := by decide +kernel
theorem dX1_isLive_58 : decode cX1_isLive 58 = .ok (.ireturn, 1) := by decide +kernel
set_option maxRecDepth 20000 in
theorem ggX1_far_X1_isPort : GoodIn wsX1_far wsX1_isPort := goodIn_r _ [6, 7, 8, 5, 9] (by decide +kernel) (by decide +kernel)
set_option maxRecDepth 20000 in
theorem gX1_far_X1_isPort : GoodIn wsX1_far (va_wsS RX1 51 yX1_isPort wsX1_isPort) := goodIn_app (goodIn_of _ (by decide +kernel)) ggX1_far_X1_isPort
theorem dX1_far_0 : decode cX1_far 0 = .ok (.aload_n 0, 1) := by decide +kernel
theorem dX1_far_1 : decode cX1_far 1 = .ok (.iload_n 1, 1) := by decide +kernel
theorem dX1_far_2 : decode cX1_far 2 = .ok (.iload_n 2, 1) := by decide +kernel
theorem dX1_far_3 : decode cX1_far 3 = .ok (.invokestatic 51, 3) := by decide +kernel
theorem dX1_far_6 : decode cX1_far 6 = .ok (.ifCond .eq 7, 3) := by decide +kernel
theorem dX1_far_9 : decode cX1_far 9 = .ok (.iconst 0, 1) := by decide +kernel
theorem dX1_far_10 : decode cX1_far 10 = .ok (.goto 4, 3) := by decide +kernel
theorem dX1_far_13 : decode cX1_far 13 = .ok (.iconst 1, 1) := by decide +kernel
theorem dX1_far_14 : decode cX1_far 14 = .ok (.putfield 43, 3) := by decide +kernel
theorem dX1_far_17 : decode cX1_far 17 = .ok (.aload_n 0, 1) := by decide +kernel
theorem dX1_far_18 : decode cX1_far 18 = .ok (.getfield 43, 3) := by decide +kernel
theorem dX1_far_21 : decode cX1_far 21 = .ok (.ifCond .ne 17, 3) := by decide +kernel
theorem dX1_far_24 : decode cX1_far 24 = .ok (.aload_n 0, 1) := by decide +kernel
theorem dX1_far_25 : decode cX1_far 25 = .ok (.getfield 16, 3) := by decide +kernel
theorem dX1_far_28 : decode cX1_far 28 = .ok (.bipush 6, 2) := by decide +kernel
theorem dX1_far_30 : decode cX1_far 30 = .ok (.iload_n 1, 1) := by decide +kernel
theorem dX1_far_31 : decode cX1_far 31 = .ok (.imul, 1) := by decide +kernel
theorem dX1_far_32 : decode cX1_far 32 = .ok (.iload_n 2, 1) := by decide +kernel
theorem dX1_far_33 : decode cX1_far 33 = .ok (.iadd, 1) := by decide +kernel
theorem dX1_far_34 : decode cX1_far 34 = .ok (.iaload, 1) := by decide +kernel
theorem dX1_far_35 : decode cX1_far 35 = .ok (.goto 4, 3) := by decide +kernel
theorem dX1_far_38 : decode cX1_far 38 = .ok (.iconst 0, 1) := by decide +kernel
theorem dX1_far_39 : decode cX1_far 39 = .ok (.istore_n 3, 1) := by decide +kernel
theorem dX1_far_40 : decode cX1_far 40 = .ok (.aload_n 0, 1) := by decide +kernel
theorem dX1_far_41 : decode cX1_far 41 = .ok (.getfield 43, 3) := by decide +kernel
theorem dX1_far_44 : decode cX1_far 44 = .ok (.ifCond .le 7, 3) := by decide +kernel
theorem dX1_far_47 : decode cX1_far 47 = .ok (.iconst 0, 1) := by decide +kernel
theorem dX1_far_48 : decode cX1_far 48 = .ok (.goto 24, 3) := by decide +kernel
theorem dX1_far_51 : decode cX1_far 51 = .ok (.iload_n 3, 1) := by decide +kernel
theorem dX1_far_52 : decode cX1_far 52 = .ok (.iconst (-1), 1) := by decide +kernel
theorem dX1_far_53 : decode cX1_far 53 = .ok (.if_icmp .ne 7, 3) := by decide +kernel
theorem dX1_far_56 : decode cX1_far 56 = .ok (.iconst (-1), 1) := by decide +kernel
theorem dX1_far_57 : decode cX1_far 57 = .ok (.goto 15, 3) := by decide +kernel
theorem dX1_far_60 : decode cX1_far 60 = .ok (.iload_n 3, 1) := by decide +kernel
theorem dX1_far_61 : decode cX1_far 61 = .ok (.bipush 6, 2) := by decide +kernel
theorem dX1_far_63 : decode cX1_far 63 = .ok (.idiv, 1) := by decide +kernel
theorem dX1_far_64 : decode cX1_far 64 = .ok (.bipush 10, 2) := by decide +kernel
theorem dX1_far_66 : decode cX1_far 66 = .ok (.imul, 1) := by decide +kernel
theorem dX1_far_67 : decode cX1_far 67 = .ok (.iload_n 3, 1) := by decide +kernel
theorem dX1_far_68 : decode cX1_far 68 = .ok (.bipush 6, 2) := by decide +kernel
theorem dX1_far_70 : decode cX1_far 70 = .ok (.irem, 1) := by decide +kernel
theorem dX1_far_71 : decode cX1_far 71 = .ok (.iadd, 1) := by decide +kernel
theorem dX1_far_72 : decode cX1_far 72 = .ok (.ireturn, 1) := by decide +kernel
set_option maxRecDepth 20000 in
theorem ggX1_isOn_X1_hasCable : GoodIn wsX1_isOn wsX1_hasCable := goodIn_r _ [5, 6, 7, 8, 9, 4, 10, 11, 12, 13, 28, 29, 30, 31, 32, 33, 34, 35, 36, 37, 38, 39, 40, 41, 42] (by decide +kernel) (by decide +kernel)
set_option maxRecDepth 20000 in
theorem gX1_isOn_X1_hasCable : GoodIn wsX1_isOn (wsV RX1 64 RX1 yX1_hasCable wsX1_hasCable) := goodIn_app (goodIn_of _ (by decide +kernel)) ggX1_isOn_X1_hasCable
set_option maxRecDepth 20000 in
theorem ggX1_isOn_X1_layTree : GoodIn wsX1_isOn wsX1_layTree := goodIn_r _ [17, 18, 6, 19, 20, 21, 22, 28, 29, 30, 31, 32, 33, 34, 35, 36, 37, 38, 39, 40, 41, 42] (by decide +kernel) (by decide +kernel)
set_option maxRecDepth 20000 in
theorem gX1_isOn_X1_layTree : GoodIn wsX1_isOn (wsV RX1 72 RX1 yX1_layTree wsX1_layTree) := goodIn_app (goodIn_of _ (by decide +kernel)) ggX1_isOn_X1_layTree
set_option maxRecDepth 20000 in
theorem ggX1_isOn_X1_isLive : GoodIn wsX1_isOn wsX1_isLive := goodIn_r _ [26, 6, 27, 22, 28, 29, 30, 31, 32, 33, 34, 35, 36, 37, 38, 39, 40, 41, 42] (by decide +kernel) (by decide +kernel)
set_option maxRecDepth 20000 in
theorem gX1_isOn_X1_isLive : GoodIn wsX1_isOn (wsV RX1 75 RX1 yX1_isLive wsX1_isLive) := goodIn_app (goodIn_of _ (by decide +kernel)) ggX1_isOn_X1_isLive
theorem dX1_isOn_0 : decode cX1_isOn 0 = .ok (.aload_n 0, 1) := by decide +kernel
theorem dX1_isOn_1 : decode cX1_isOn 1 = .ok (.iload_n 1, 1) := by decide +kernel
theorem dX1_isOn_2 : decode cX1_isOn 2 = .ok (.iload_n 2, 1) := by decide +kernel
theorem dX1_isOn_3 : decode cX1_isOn 3 = .ok (.invokevirtual 64, 3) := by decide +kernel
theorem dX1_isOn_6 : decode cX1_isOn 6 = .ok (.ifCond .ne 5, 3) := by decide +kernel
theorem dX1_isOn_9 : decode cX1_isOn 9 = .ok (.iconst 0, 1) := by decide +kernel
theorem dX1_isOn_10 : decode cX1_isOn 10 = .ok (.ireturn, 1) := by decide +kernel
theorem dX1_isOn_11 : decode cX1_isOn 11 = .ok (.aload_n 0, 1) := by decide +kernel
theorem dX1_isOn_12 : decode cX1_isOn 12 = .ok (.invokevirtual 72, 3) := by decide +kernel
theorem dX1_isOn_15 : decode cX1_isOn 15 = .ok (.aload_n 0, 1) := by decide +kernel
theorem dX1_isOn_16 : decode cX1_isOn 16 = .ok (.bipush 6, 2) := by decide +kernel
theorem dX1_isOn_18 : decode cX1_isOn 18 = .ok (.iload_n 1, 1) := by decide +kernel
theorem dX1_isOn_19 : decode cX1_isOn 19 = .ok (.imul, 1) := by decide +kernel
theorem dX1_isOn_20 : decode cX1_isOn 20 = .ok (.iload_n 2, 1) := by decide +kernel
theorem dX1_isOn_21 : decode cX1_isOn 21 = .ok (.iadd, 1) := by decide +kernel
theorem dX1_isOn_22 : decode cX1_isOn 22 = .ok (.invokevirtual 75, 3) := by decide +kernel
theorem dX1_isOn_25 : decode cX1_isOn 25 = .ok (.ireturn, 1) := by decide +kernel
set_option maxRecDepth 20000 in
theorem ggX1_carried_X1_isTagged : GoodIn wsX1_carried wsX1_isTagged := goodIn_r _ [7, 8, 9, 10, 11, 12, 13, 14, 15, 16, 17, 18, 19, 20, 21, 22, 23] (by decide +kernel) (by decide +kernel)
set_option maxRecDepth 20000 in
theorem gX1_carried_X1_isTagged : GoodIn wsX1_carried (wsV RX1 55 RX1 yX1_isTagged wsX1_isTagged) := goodIn_app (goodIn_of _ (by decide +kernel)) ggX1_carried_X1_isTagged
theorem dX1_carried_0 : decode cX1_carried 0 = .ok (.aload_n 0, 1) := by decide +kernel
theorem dX1_carried_1 : decode cX1_carried 1 = .ok (.getfield 16, 3) := by decide +kernel
theorem dX1_carried_4 : decode cX1_carried 4 = .ok (.iload_n 1, 1) := by decide +kernel
theorem dX1_carried_5 : decode cX1_carried 5 = .ok (.iaload, 1) := by decide +kernel
theorem dX1_carried_6 : decode cX1_carried 6 = .ok (.istore_n 3, 1) := by decide +kernel
theorem dX1_carried_7 : decode cX1_carried 7 = .ok (.aload_n 0, 1) := by decide +kernel
theorem dX1_carried_8 : decode cX1_carried 8 = .ok (.iload_n 1, 1) := by decide +kernel
theorem dX1_carried_9 : decode cX1_carried 9 = .ok (.iload_n 2, 1) := by decide +kernel
theorem dX1_carried_10 : decode cX1_carried 10 = .ok (.invokevirtual 55, 3) := by decide +kernel
theorem dX1_carried_13 : decode cX1_carried 13 = .ok (.ifCond .eq 18, 3) := by decide +kernel
theorem dX1_carried_16 : decode cX1_carried 16 = .ok (.aload_n 0, 1) := by decide +kernel
theorem dX1_carried_17 : decode cX1_carried 17 = .ok (.iload_n 3, 1) := by decide +kernel
theorem dX1_carried_18 : decode cX1_carried 18 = .ok (.iload_n 2, 1) := by decide +kernel
theorem dX1_carried_19 : decode cX1_carried 19 = .ok (.invokevirtual 55, 3) := by decide +kernel
theorem dX1_carried_22 : decode cX1_carried 22 = .ok (.ifCond .eq 7, 3) := by decide +kernel
theorem dX1_carried_25 : decode cX1_carried 25 = .ok (.iload_n 2, 1) := by decide +kernel
theorem dX1_carried_26 : decode cX1_carried 26 = .ok (.goto 4, 3) := by decide +kernel
theorem dX1_carried_29 : decode cX1_carried 29 = .ok (.iconst (-1), 1) := by decide +kernel
theorem dX1_carried_30 : decode cX1_carried 30 = .ok (.ireturn, 1) := by decide +kernel
theorem dX1_carried_31 : decode cX1_carried 31 = .ok (.aload_n 0, 1) := by decide +kernel
theorem dX1_carried_32 : decode cX1_carried 32 = .ok (.getfield 7, 3) := by decide +kernel
theorem dX1_carried_35 : decode cX1_carried 35 = .ok (.iload_n 1, 1) := by decide +kernel
theorem dX1_carried_36 : decode cX1_carried 36 = .ok (.iaload, 1) := by decide +kernel
theorem dX1_carried_37 : decode cX1_carried 37 = .ok (.iload_n 2, 1) := by decide +kernel
theorem dX1_carried_38 : decode cX1_carried 38 = .ok (.if_icmp .ne 21, 3) := by decide +kernel
theorem dX1_carried_41 : decode cX1_carried 41 = .ok (.aload_n 0, 1) := by decide +kernel
theorem dX1_carried_42 : decode cX1_carried 42 = .ok (.getfield 7, 3) := by decide +kernel
theorem dX1_carried_45 : decode cX1_carried 45 = .ok (.iload_n 3, 1) := by decide +kernel
theorem dX1_carried_46 : decode cX1_carried 46 = .ok (.iaload, 1) := by decide +kernel
theorem dX1_carried_47 : decode cX1_carried 47 = .ok (.ifCond .le 12, 3) := by decide +kernel
theorem dX1_carried_50 : decode cX1_carried 50 = .ok (.aload_n 0, 1) := by decide +kernel
theorem dX1_carried_51 : decode cX1_carried 51 = .ok (.getfield 7, 3) := by decide +kernel
theorem dX1_carried_54 : decode cX1_carried 54 = .ok (.iload_n 3, 1) := by decide +kernel
theorem dX1_carried_55 : decode cX1_carried 55 = .ok (.iaload, 1) := by decide +kernel
theorem dX1_carried_56 : decode cX1_carried 56 = .ok (.goto 4, 3) := by decide +kernel
theorem dX1_carried_59 : decode cX1_carried 59 = .ok (.iconst (-1), 1) := by decide +kernel
theorem dX1_carried_60 : decode cX1_carried 60 = .ok (.ireturn, 1) := by decide +kernel
set_option maxRecDepth 20000 in
theorem ggX1_comesAs_X1_isPort : GoodIn wsX1_comesAs wsX1_isPort := goodIn_r _ [5, 6, 7, 4, 8] (by decide +kernel) (by decide +kernel)
set_option maxRecDepth 20000 in
theorem gX1_comesAs_X1_isPort : GoodIn wsX1_comesAs (va_wsS RX1 51 yX1_isPort wsX1_isPort) := goodIn_app (goodIn_of _ (by decide +kernel)) ggX1_comesAs_X1_isPort
set_option maxRecDepth 20000 in
theorem ggX1_comesAs_X1_isPlace : GoodIn wsX1_comesAs wsX1_isPlace := goodIn_r _ [11, 6, 7, 4, 8] (by decide +kernel) (by decide +kernel)
set_option maxRecDepth 20000 in
theorem gX1_comesAs_X1_isPlace : GoodIn wsX1_comesAs (va_wsS RX1 58 yX1_isPlace wsX1_isPlace) := goodIn_app (goodIn_of _ (by decide +kernel)) ggX1_comesAs_X1_isPlace
set_option maxRecDepth 20000 in
theorem ggX1_comesAs_X1_hasCable : GoodIn wsX1_comesAs wsX1_hasCable := goodIn_r _ [15, 16, 1, 2, 3, 4, 5, 6, 7, 8, 27, 28, 29, 30, 31, 32, 33, 34, 35, 36, 37, 38, 39, 40, 41] (by decide +kernel) (by decide +kernel)
set_option maxRecDepth 20000 in
theorem gX1_comesAs_X1_hasCable : GoodIn wsX1_comesAs (wsV RX1 64 RX1 yX1_hasCable wsX1_hasCable) := goodIn_app (goodIn_of _ (by decide +kernel)) ggX1_comesAs_X1_hasCable
set_option maxRecDepth 20000 in
theorem ggX1_comesAs_X1_carried : GoodIn wsX1_comesAs wsX1_carried := goodIn_r _ [20, 16, 21, 22, 23, 24, 4, 25, 26, 27, 28, 29, 30, 31, 32, 33, 34, 35, 36, 37, 38, 39, 40, 41] (by decide +kernel) (by decide +kernel)
set_option maxRecDepth 20000 in
theorem gX1_comesAs_X1_carried : GoodIn wsX1_comesAs (wsV RX1 79 RX1 yX1_carried wsX1_carried) := goodIn_app (goodIn_of _ (by decide +kernel)) ggX1_comesAs_X1_carried
theorem dX1_comesAs_0 : decode cX1_comesAs 0 = .ok (.aload_n 0, 1) := by decide +kernel
theorem dX1_comesAs_1 : decode cX1_comesAs 1 = .ok (.iload_n 1, 1) := by decide +kernel
theorem dX1_comesAs_2 : decode cX1_comesAs 2 = .ok (.iload_n 2, 1) := by decide +kernel
theorem dX1_comesAs_3 : decode cX1_comesAs 3 = .ok (.invokestatic 51, 3) := by decide +kernel
theorem dX1_comesAs_6 : decode cX1_comesAs 6 = .ok (.ifCond .eq 11, 3) := by decide +kernel
theorem dX1_comesAs_9 : decode cX1_comesAs 9 = .ok (.iload_n 1, 1) := by decide +kernel
theorem dX1_comesAs_10 : decode cX1_comesAs 10 = .ok (.iload_n 3, 1) := by decide +kernel
theorem dX1_comesAs_11 : decode cX1_comesAs 11 = .ok (.invokestatic 58, 3) := by decide +kernel
theorem dX1_comesAs_14 : decode cX1_comesAs 14 = .ok (.ifCond .ne 7, 3) := by decide +kernel
theorem dX1_comesAs_17 : decode cX1_comesAs 17 = .ok (.iconst 1, 1) := by decide +kernel
theorem dX1_comesAs_18 : decode cX1_comesAs 18 = .ok (.goto 4, 3) := by decide +kernel
theorem dX1_comesAs_21 : decode cX1_comesAs 21 = .ok (.iconst 0, 1) := by decide +kernel
theorem dX1_comesAs_22 : decode cX1_comesAs 22 = .ok (.putfield 43, 3) := by decide +kernel
theorem dX1_comesAs_25 : decode cX1_comesAs 25 = .ok (.aload_n 0, 1) := by decide +kernel
theorem dX1_comesAs_26 : decode cX1_comesAs 26 = .ok (.getfield 43, 3) := by decide +kernel
theorem dX1_comesAs_29 : decode cX1_comesAs 29 = .ok (.ifCond .gt 12, 3) := by decide +kernel
theorem dX1_comesAs_32 : decode cX1_comesAs 32 = .ok (.aload_n 0, 1) := by decide +kernel
theorem dX1_comesAs_33 : decode cX1_comesAs 33 = .ok (.iload_n 1, 1) := by decide +kernel
theorem dX1_comesAs_34 : decode cX1_comesAs 34 = .ok (.iload_n 2, 1) := by decide +kernel
theorem dX1_comesAs_35 : decode cX1_comesAs 35 = .ok (.invokevirtual 64, 3) := by decide +kernel
theorem dX1_comesAs_38 : decode cX1_comesAs 38 = .ok (.ifCond .ne 5, 3) := by decide +kernel
theorem dX1_comesAs_41 : decode cX1_comesAs 41 = .ok (.iconst 0, 1) := by decide +kernel
theorem dX1_comesAs_42 : decode cX1_comesAs 42 = .ok (.ireturn, 1) := by decide +kernel
theorem dX1_comesAs_43 : decode cX1_comesAs 43 = .ok (.aload_n 0, 1) := by decide +kernel
theorem dX1_comesAs_44 : decode cX1_comesAs 44 = .ok (.bipush 6, 2) := by decide +kernel
theorem dX1_comesAs_46 : decode cX1_comesAs 46 = .ok (.iload_n 1, 1) := by decide +kernel
theorem dX1_comesAs_47 : decode cX1_comesAs 47 = .ok (.imul, 1) := by decide +kernel
theorem dX1_comesAs_48 : decode cX1_comesAs 48 = .ok (.iload_n 2, 1) := by decide +kernel
theorem dX1_comesAs_49 : decode cX1_comesAs 49 = .ok (.iadd, 1) := by decide +kernel
theorem dX1_comesAs_50 : decode cX1_comesAs 50 = .ok (.iload_n 3, 1) := by decide +kernel
theorem dX1_comesAs_51 : decode cX1_comesAs 51 = .ok (.invokevirtual 79, 3) := by decide +kernel
theorem dX1_comesAs_54 : decode cX1_comesAs 54 = .ok (.ireturn, 1) := by decide +kernel
theorem dX1_bits_0 : decode cX1_bits 0 = .ok (.iconst 0, 1) := by decide +kernel
theorem dX1_bits_1 : decode cX1_bits 1 = .ok (.istore_n 1, 1) := by decide +kernel
theorem dX1_bits_2 : decode cX1_bits 2 = .ok (.iconst 0, 1) := by decide +kernel
theorem dX1_bits_3 : decode cX1_bits 3 = .ok (.istore_n 2, 1) := by decide +kernel
theorem dX1_bits_4 : decode cX1_bits 4 = .ok (.iload_n 2, 1) := by decide +kernel
theorem dX1_bits_5 : decode cX1_bits 5 = .ok (.bipush 16, 2) := by decide +kernel
theorem dX1_bits_7 : decode cX1_bits 7 = .ok (.if_icmp .ge 17, 3) := by decide +kernel
theorem dX1_bits_10 : decode cX1_bits 10 = .ok (.iload_n 1, 1) := by decide +kernel
theorem dX1_bits_11 : decode cX1_bits 11 = .ok (.iload_n 0, 1) := by decide +kernel
theorem dX1_bits_12 : decode cX1_bits 12 = .ok (.iload_n 2, 1) := by decide +kernel
theorem dX1_bits_13 : decode cX1_bits 13 = .ok (.ishr, 1) := by decide +kernel
theorem dX1_bits_14 : decode cX1_bits 14 = .ok (.iconst 1, 1) := by decide +kernel
theorem dX1_bits_15 : decode cX1_bits 15 = .ok (.iand, 1) := by decide +kernel
theorem dX1_bits_16 : decode cX1_bits 16 = .ok (.iadd, 1) := by decide +kernel
theorem dX1_bits_17 : decode cX1_bits 17 = .ok (.istore_n 1, 1) := by decide +kernel
theorem dX1_bits_18 : decode cX1_bits 18 = .ok (.iinc 2 1, 3) := by decide +kernel
theorem dX1_bits_21 : decode cX1_bits 21 = .ok (.goto (-17), 3) := by decide +kernel
theorem dX1_bits_24 : decode cX1_bits 24 = .ok (.iload_n 1, 1) := by decide +kernel
theorem dX1_bits_25 : decode cX1_bits 25 = .ok (.ireturn, 1) := by decide +kernel
set_option maxRecDepth 20000 in
theorem ggX1_oneSided_X1_hasCable : GoodIn wsX1_oneSided wsX1_hasCable := goodIn_r _ [7, 2, 8, 9, 10, 6, 11, 12, 13, 14, 18, 19, 20, 21, 22, 23, 24, 25, 26, 27, 28, 29, 30, 31, 32] (by decide +kernel) (by decide +kernel)
set_option maxRecDepth 20000 in
theorem gX1_oneSided_X1_hasCable : GoodIn wsX1_oneSided (wsV RX1 64 RX1 yX1_hasCable wsX1_hasCable) := goodIn_app (goodIn_of _ (by decide +kernel)) ggX1_oneSided_X1_hasCable
set_option maxRecDepth 20000 in
theorem ggX1_oneSided_X1_bits : GoodIn wsX1_oneSided wsX1_bits := goodIn_r _ [17] (by decide +kernel) (by decide +kernel)
set_option maxRecDepth 20000 in
theorem gX1_oneSided_X1_bits : GoodIn wsX1_oneSided (va_wsS RX1 83 yX1_bits wsX1_bits) := goodIn_app (goodIn_of _ (by decide +kernel)) ggX1_oneSided_X1_bits
theorem dX1_oneSided_0 : decode cX1_oneSided 0 = .ok (.aload_n 0, 1) := by decide +kernel
theorem dX1_oneSided_1 : decode cX1_oneSided 1 = .ok (.iload_n 1, 1) := by decide +kernel
theorem dX1_oneSided_2 : decode cX1_oneSided 2 = .ok (.iload_n 2, 1) := by decide +kernel
theorem dX1_oneSided_3 : decode cX1_oneSided 3 = .ok (.invokevirtual 64, 3) := by decide +kernel
theorem dX1_oneSided_6 : decode cX1_oneSided 6 = .ok (.ifCond .ne 5, 3) := by decide +kernel
theorem dX1_oneSided_9 : decode cX1_oneSided 9 = .ok (.iconst 0, 1) := by decide +kernel
theorem dX1_oneSided_10 : decode cX1_oneSided 10 = .ok (.ireturn, 1) := by decide +kernel
theorem dX1_oneSided_11 : decode cX1_oneSided 11 = .ok (.bipush 6, 2) := by decide +kernel
theorem dX1_oneSided_13 : decode cX1_oneSided 13 = .ok (.iload_n 1, 1) := by decide +kernel
theorem dX1_oneSided_14 : decode cX1_oneSided 14 = .ok (.imul, 1) := by decide +kernel
theorem dX1_oneSided_15 : decode cX1_oneSided 15 = .ok (.iload_n 2, 1) := by decide +kernel
theorem dX1_oneSided_16 : decode cX1_oneSided 16 = .ok (.iadd, 1) := by decide +kernel
theorem dX1_oneSided_17 : decode cX1_oneSided 17 = .ok (.istore_n 3, 1) := by decide +kernel
theorem dX1_oneSided_18 : decode cX1_oneSided 18 = .ok (.aload_n 0, 1) := by decide +kernel
theorem dX1_oneSided_19 : decode cX1_oneSided 19 = .ok (.getfield 13, 3) := by decide +kernel
theorem dX1_oneSided_22 : decode cX1_oneSided 22 = .ok (.iload_n 3, 1) := by decide +kernel
theorem dX1_oneSided_23 : decode cX1_oneSided 23 = .ok (.iaload, 1) := by decide +kernel
theorem dX1_oneSided_24 : decode cX1_oneSided 24 = .ok (.aload_n 0, 1) := by decide +kernel
theorem dX1_oneSided_25 : decode cX1_oneSided 25 = .ok (.getfield 13, 3) := by decide +kernel
theorem dX1_oneSided_28 : decode cX1_oneSided 28 = .ok (.aload_n 0, 1) := by decide +kernel
theorem dX1_oneSided_29 : decode cX1_oneSided 29 = .ok (.getfield 16, 3) := by decide +kernel
theorem dX1_oneSided_32 : decode cX1_oneSided 32 = .ok (.iload_n 3, 1) := by decide +kernel
theorem dX1_oneSided_33 : decode cX1_oneSided 33 = .ok (.iaload, 1) := by decide +kernel
theorem dX1_oneSided_34 : decode cX1_oneSided 34 = .ok (.iaload, 1) := by decide +kernel
theorem dX1_oneSided_35 : decode cX1_oneSided 35 = .ok (.ixor, 1) := by decide +kernel
theorem dX1_oneSided_36 : decode cX1_oneSided 36 = .ok (.invokestatic 83, 3) := by decide +kernel
theorem dX1_oneSided_39 : decode cX1_oneSided 39 = .ok (.ireturn, 1) := by decide +kernel
theorem dX1_wrong_0 : decode cX1_wrong 0 = .ok (.aload_n 0, 1) := by decide +kernel
theorem dX1_wrong_1 : decode cX1_wrong 1 = .ok (.iconst 0, 1) := by decide +kernel
theorem dX1_wrong_2 : decode cX1_wrong 2 = .ok (.putfield 43, 3) := by decide +kernel
theorem dX1_wrong_5 : decode cX1_wrong 5 = .ok (.iconst 0, 1) := by decide +kernel
theorem dX1_wrong_6 : decode cX1_wrong 6 = .ok (.istore_n 1, 1) := by decide +kernel
theorem dX1_wrong_7 : decode cX1_wrong 7 = .ok (.iconst 0, 1) := by decide +kernel
theorem dX1_wrong_8 : decode cX1_wrong 8 = .ok (.istore_n 2, 1) := by decide +kernel
theorem dX1_wrong_9 : decode cX1_wrong 9 = .ok (.iload_n 2, 1) := by decide +kernel
theorem dX1_wrong_10 : decode cX1_wrong 10 = .ok (.bipush 36, 2) := by decide +kernel
theorem dX1_wrong_12 : decode cX1_wrong 12 = .ok (.if_icmp .ge 42, 3) := by decide +kernel
theorem dX1_wrong_15 : decode cX1_wrong 15 = .ok (.iload_n 1, 1) := by decide +kernel
theorem dX1_wrong_16 : decode cX1_wrong 16 = .ok (.aload_n 0, 1) := by decide +kernel
theorem dX1_wrong_17 : decode cX1_wrong 17 = .ok (.getfield 22, 3) := by decide +kernel
theorem dX1_wrong_20 : decode cX1_wrong 20 = .ok (.iload_n 2, 1) := by decide +kernel
theorem dX1_wrong_21 : decode cX1_wrong 21 = .ok (.iaload, 1) := by decide +kernel
theorem dX1_wrong_22 : decode cX1_wrong 22 = .ok (.iconst (-1), 1) := by decide +kernel
theorem dX1_wrong_23 : decode cX1_wrong 23 = .ok (.if_icmp .eq 22, 3) := by decide +kernel
theorem dX1_wrong_26 : decode cX1_wrong 26 = .ok (.aload_n 0, 1) := by decide +kernel
theorem dX1_wrong_27 : decode cX1_wrong 27 = .ok (.getfield 22, 3) := by decide +kernel
theorem dX1_wrong_30 : decode cX1_wrong 30 = .ok (.iload_n 2, 1) := by decide +kernel
theorem dX1_wrong_31 : decode cX1_wrong 31 = .ok (.iaload, 1) := by decide +kernel
theorem dX1_wrong_32 : decode cX1_wrong 32 = .ok (.aload_n 0, 1) := by decide +kernel
theorem dX1_wrong_33 : decode cX1_wrong 33 = .ok (.getfield 16, 3) := by decide +kernel
theorem dX1_wrong_36 : decode cX1_wrong 36 = .ok (.iload_n 2, 1) := by decide +kernel
theorem dX1_wrong_37 : decode cX1_wrong 37 = .ok (.iaload, 1) := by decide +kernel
theorem dX1_wrong_38 : decode cX1_wrong 38 = .ok (.if_icmp .eq 7, 3) := by decide +kernel
theorem dX1_wrong_41 : decode cX1_wrong 41 = .ok (.iconst 1, 1) := by decide +kernel
theorem dX1_wrong_42 : decode cX1_wrong 42 = .ok (.goto 4, 3) := by decide +kernel
theorem dX1_wrong_45 : decode cX1_wrong 45 = .ok (.iconst 0, 1) := by decide +kernel
theorem dX1_wrong_46 : decode cX1_wrong 46 = .ok (.iadd, 1) := by decide +kernel
theorem dX1_wrong_47 : decode cX1_wrong 47 = .ok (.istore_n 1, 1) := by decide +kernel
theorem dX1_wrong_48 : decode cX1_wrong 48 = .ok (.iinc 2 1, 3) := by decide +kernel
theorem dX1_wrong_51 : decode cX1_wrong 51 = .ok (.goto (-42), 3) := by decide +kernel
theorem dX1_wrong_54 : decode cX1_wrong 54 = .ok (.iload_n 1, 1) := by decide +kernel
theorem dX1_wrong_55 : decode cX1_wrong 55 = .ok (.ireturn, 1) := by decide +kernel
set_option maxRecDepth 20000 in
theorem ggX1_asksFor_X1_in : GoodIn wsX1_asksFor wsX1_in := goodIn_r _ [5] (by decide +kernel) (by decide +kernel)
set_option maxRecDepth 20000 in
theorem gX1_asksFor_X1_in : GoodIn wsX1_asksFor (va_wsS RX1 47 yX1_in wsX1_in) := goodIn_app (goodIn_of _ (by decide +kernel)) ggX1_asksFor_X1_in
set_option maxRecDepth 20000 in
theorem ggX1_asksFor_X1_layTree : GoodIn wsX1_asksFor wsX1_layTree := goodIn_r _ [9, 10, 11, 12, 13, 14, 15, 16, 17, 18, 19, 20, 21, 22, 23, 24, 25, 26, 27, 28, 29, 30] (by decide +kernel) (by decide +kernel)
set_option maxRecDepth 20000 in
theorem gX1_asksFor_X1_layTree : GoodIn wsX1_asksFor (wsV RX1 72 RX1 yX1_layTree wsX1_layTree) := goodIn_app (goodIn_of _ (by decide +kernel)) ggX1_asksFor_X1_layTree
theorem dX1_asksFor_0 : decode cX1_asksFor 0 = .ok (.aload_n 0, 1) := by decide +kernel
theorem dX1_asksFor_1 : decode cX1_asksFor 1 = .ok (.iload_n 1, 1) := by decide +kernel
theorem dX1_asksFor_2 : decode cX1_asksFor 2 = .ok (.iconst 0, 1) := by decide +kernel
theorem dX1_asksFor_3 : decode cX1_asksFor 3 = .ok (.iconst 5, 1) := by decide +kernel
theorem dX1_asksFor_4 : decode cX1_asksFor 4 = .ok (.invokestatic 47, 3) := by decide +kernel
theorem dX1_asksFor_7 : decode cX1_asksFor 7 = .ok (.ifCond .eq 7, 3) := by decide +kernel
theorem dX1_asksFor_10 : decode cX1_asksFor 10 = .ok (.iconst 0, 1) := by decide +kernel
theorem dX1_asksFor_11 : decode cX1_asksFor 11 = .ok (.goto 4, 3) := by decide +kernel
theorem dX1_asksFor_14 : decode cX1_asksFor 14 = .ok (.iconst 1, 1) := by decide +kernel
theorem dX1_asksFor_15 : decode cX1_asksFor 15 = .ok (.putfield 43, 3) := by decide +kernel
theorem dX1_asksFor_18 : decode cX1_asksFor 18 = .ok (.aload_n 0, 1) := by decide +kernel
theorem dX1_asksFor_19 : decode cX1_asksFor 19 = .ok (.invokevirtual 72, 3) := by decide +kernel
theorem dX1_asksFor_22 : decode cX1_asksFor 22 = .ok (.aload_n 0, 1) := by decide +kernel
theorem dX1_asksFor_23 : decode cX1_asksFor 23 = .ok (.getfield 43, 3) := by decide +kernel
theorem dX1_asksFor_26 : decode cX1_asksFor 26 = .ok (.ifCond .ne 7, 3) := by decide +kernel
theorem dX1_asksFor_29 : decode cX1_asksFor 29 = .ok (.iconst 1, 1) := by decide +kernel
theorem dX1_asksFor_30 : decode cX1_asksFor 30 = .ok (.goto 4, 3) := by decide +kernel
theorem dX1_asksFor_33 : decode cX1_asksFor 33 = .ok (.iconst 0, 1) := by decide +kernel
theorem dX1_asksFor_34 : decode cX1_asksFor 34 = .ok (.ireturn, 1) := by decide +kernel
set_option maxRecDepth 20000 in
theorem ggX1_root_X1_asksFor : GoodIn wsX1_root wsX1_asksFor := goodIn_r _ [6, 7, 8, 9, 5, 10, 11, 12, 13, 14, 1, 15, 16, 17, 18, 19, 20, 21, 22, 23, 24, 25, 26, 27, 28, 29, 30, 31, 32, 33, 34] (by decide +kernel) (by decide +kernel)
set_option maxRecDepth 20000 in
theorem gX1_root_X1_asksFor : GoodIn wsX1_root (wsV RX1 87 RX1 yX1_asksFor wsX1_asksFor) := goodIn_app (goodIn_of _ (by decide +kernel)) ggX1_root_X1_asksFor
theorem dX1_root_0 : decode cX1_root 0 = .ok (.aload_n 0, 1) := by decide +kernel
theorem dX1_root_1 : decode cX1_root 1 = .ok (.iload_n 1, 1) := by decide +kernel
theorem dX1_root_2 : decode cX1_root 2 = .ok (.invokevirtual 87, 3) := by decide +kernel
theorem dX1_root_5 : decode cX1_root 5 = .ok (.ifCond .eq 12, 3) := by decide +kernel
theorem dX1_root_8 : decode cX1_root 8 = .ok (.aload_n 0, 1) := by decide +kernel
theorem dX1_root_9 : decode cX1_root 9 = .ok (.getfield 25, 3) := by decide +kernel
theorem dX1_root_12 : decode cX1_root 12 = .ok (.iload_n 1, 1) := by decide +kernel
theorem dX1_root_13 : decode cX1_root 13 = .ok (.iaload, 1) := by decide +kernel
theorem dX1_root_14 : decode cX1_root 14 = .ok (.goto 4, 3) := by decide +kernel
theorem dX1_root_17 : decode cX1_root 17 = .ok (.iconst 0, 1) := by decide +kernel
theorem dX1_root_18 : decode cX1_root 18 = .ok (.ireturn, 1) := by decide +kernel
set_option maxRecDepth 20000 in
theorem ggX1_costOf_X1_asksFor : GoodIn wsX1_costOf wsX1_asksFor := goodIn_r _ [6, 7, 8, 9, 5, 10, 11, 12, 13, 14, 15, 16, 1, 17, 18, 19, 20, 21, 22, 23, 24, 25, 26, 27, 28, 29, 30, 31, 32, 33, 34] (by decide +kernel) (by decide +kernel)
set_option maxRecDepth 20000 in
theorem gX1_costOf_X1_asksFor : GoodIn wsX1_costOf (wsV RX1 87 RX1 yX1_asksFor wsX1_asksFor) := goodIn_app (goodIn_of _ (by decide +kernel)) ggX1_costOf_X1_asksFor
theorem dX1_costOf_0 : decode cX1_costOf 0 = .ok (.aload_n 0, 1) := by decide +kernel
theorem dX1_costOf_1 : decode cX1_costOf 1 = .ok (.iload_n 1, 1) := by decide +kernel
theorem dX1_costOf_2 : decode cX1_costOf 2 = .ok (.invokevirtual 87, 3) := by decide +kernel
theorem dX1_costOf_5 : decode cX1_costOf 5 = .ok (.ifCond .eq 12, 3) := by decide +kernel
theorem dX1_costOf_8 : decode cX1_costOf 8 = .ok (.aload_n 0, 1) := by decide +kernel
theorem dX1_costOf_9 : decode cX1_costOf 9 = .ok (.getfield 31, 3) := by decide +kernel
theorem dX1_costOf_12 : decode cX1_costOf 12 = .ok (.iload_n 1, 1) := by decide +kernel
theorem dX1_costOf_13 : decode cX1_costOf 13 = .ok (.iaload, 1) := by decide +kernel
theorem dX1_costOf_14 : decode cX1_costOf 14 = .ok (.goto 4, 3) := by decide +kernel
theorem dX1_costOf_17 : decode cX1_costOf 17 = .ok (.iconst 0, 1) := by decide +kernel
theorem dX1_costOf_18 : decode cX1_costOf 18 = .ok (.ireturn, 1) := by decide +kernel
set_option maxRecDepth 20000 in
theorem ggX1_wayUp_X1_asksFor : GoodIn wsX1_wayUp wsX1_asksFor := goodIn_r _ [6, 7, 8, 9, 5, 10, 11, 12, 13, 14, 15, 16, 17, 18, 19, 1, 20, 21, 22, 23, 24, 25, 26, 27, 28, 29, 30, 31, 32, 33, 34] (by decide +kernel) (by decide +kernel)
set_option maxRecDepth 20000 in
theorem gX1_wayUp_X1_asksFor : GoodIn wsX1_wayUp (wsV RX1 87 RX1 yX1_asksFor wsX1_asksFor) := goodIn_app (goodIn_of _ (by decide +kernel)) ggX1_wayUp_X1_asksFor
theorem dX1_wayUp_0 : decode cX1_wayUp 0 = .ok (.aload_n 0, 1) := by decide +kernel
theorem dX1_wayUp_1 : decode cX1_wayUp 1 = .ok (.iload_n 1, 1) := by decide +kernel
theorem dX1_wayUp_2 : decode cX1_wayUp 2 = .ok (.invokevirtual 87, 3) := by decide +kernel
theorem dX1_wayUp_5 : decode cX1_wayUp 5 = .ok (.ifCond .ne 7, 3) := by decide +kernel
theorem dX1_wayUp_8 : decode cX1_wayUp 8 = .ok (.iconst 0, 1) := by decide +kernel
theorem dX1_wayUp_9 : decode cX1_wayUp 9 = .ok (.goto 26, 3) := by decide +kernel
theorem dX1_wayUp_12 : decode cX1_wayUp 12 = .ok (.aload_n 0, 1) := by decide +kernel
theorem dX1_wayUp_13 : decode cX1_wayUp 13 = .ok (.getfield 28, 3) := by decide +kernel
theorem dX1_wayUp_16 : decode cX1_wayUp 16 = .ok (.iload_n 1, 1) := by decide +kernel
theorem dX1_wayUp_17 : decode cX1_wayUp 17 = .ok (.iaload, 1) := by decide +kernel
theorem dX1_wayUp_18 : decode cX1_wayUp 18 = .ok (.iconst (-1), 1) := by decide +kernel
theorem dX1_wayUp_19 : decode cX1_wayUp 19 = .ok (.if_icmp .ne 7, 3) := by decide +kernel
theorem dX1_wayUp_22 : decode cX1_wayUp 22 = .ok (.iconst (-1), 1) := by decide +kernel
theorem dX1_wayUp_23 : decode cX1_wayUp 23 = .ok (.goto 12, 3) := by decide +kernel
theorem dX1_wayUp_26 : decode cX1_wayUp 26 = .ok (.aload_n 0, 1) := by decide +kernel
theorem dX1_wayUp_27 : decode cX1_wayUp 27 = .ok (.getfield 28, 3) := by decide +kernel
theorem dX1_wayUp_30 : decode cX1_wayUp 30 = .ok (.iload_n 1, 1) := by decide +kernel
theorem dX1_wayUp_31 : decode cX1_wayUp 31 = .ok (.iaload, 1) := by decide +kernel
theorem dX1_wayUp_32 : decode cX1_wayUp 32 = .ok (.bipush 6, 2) := by decide +kernel
theorem dX1_wayUp_34 : decode cX1_wayUp 34 = .ok (.irem, 1) := by decide +kernel
theorem dX1_wayUp_35 : decode cX1_wayUp 35 = .ok (.ireturn, 1) := by decide +kernel
theorem dX1_place_0 : decode cX1_place 0 = .ok (.bipush 16, 2) := by decide +kernel
theorem dX1_place_2 : decode cX1_place 2 = .ok (.iload_n 0, 1) := by decide +kernel
theorem dX1_place_3 : decode cX1_place 3 = .ok (.imul, 1) := by decide +kernel
theorem dX1_place_4 : decode cX1_place 4 = .ok (.iload_n 1, 1) := by decide +kernel
theorem dX1_place_5 : decode cX1_place 5 = .ok (.iadd, 1) := by decide +kernel
theorem dX1_place_6 : decode cX1_place 6 = .ok (.ireturn, 1) := by decide +kernel
set_option maxRecDepth 20000 in
theorem ggX1_spread_X1_layTree : GoodIn wsX1_spread wsX1_layTree := goodIn_r _ [9, 10, 4, 11, 12, 13, 14, 33, 34, 35, 36, 37, 38, 39, 40, 41, 42, 43, 44, 45, 46, 47] (by decide +kernel) (by decide +kernel)
set_option maxRecDepth 20000 in
theorem gX1_spread_X1_layTree : GoodIn wsX1_spread (wsV RX1 72 RX1 yX1_layTree wsX1_layTree) := goodIn_app (goodIn_of _ (by decide +kernel)) ggX1_spread_X1_layTree
set_option maxRecDepth 20000 in
theorem ggX1_spread_X1_isLive : GoodIn wsX1_spread wsX1_isLive := goodIn_r _ [18, 4, 19, 14, 33, 34, 35, 36, 37, 38, 39, 40, 41, 42, 43, 44, 45, 46, 47] (by decide +kernel) (by decide +kernel)
set_option maxRecDepth 20000 in
theorem gX1_spread_X1_isLive : GoodIn wsX1_spread (wsV RX1 75 RX1 yX1_isLive wsX1_isLive) := goodIn_app (goodIn_of _ (by decide +kernel)) ggX1_spread_X1_isLive
set_option maxRecDepth 20000 in
theorem ggX1_spread_X1_carried : GoodIn wsX1_spread wsX1_carried := goodIn_r _ [23, 4, 24, 25, 26, 27, 8, 28, 29, 33, 34, 35, 36, 37, 38, 39, 40, 41, 42, 43, 44, 45, 46, 47] (by decide +kernel) (by decide +kernel)
set_option maxRecDepth 20000 in
theorem gX1_spread_X1_carried : GoodIn wsX1_spread (wsV RX1 79 RX1 yX1_carried wsX1_carried) := goodIn_app (goodIn_of _ (by decide +kernel)) ggX1_spread_X1_carried
set_option maxRecDepth 20000 in
theorem ggX1_spread_X1_place : GoodIn wsX1_spread wsX1_place := goodIn_r _ [32] (by decide +kernel) (by decide +kernel)
set_option maxRecDepth 20000 in
theorem gX1_spread_X1_place : GoodIn wsX1_spread (va_wsS RX1 93 yX1_place wsX1_place) := goodIn_app (goodIn_of _ (by decide +kernel)) ggX1_spread_X1_place
theorem dX1_spread_0 : decode cX1_spread 0 = .ok (.aload_n 0, 1) := by decide +kernel
theorem dX1_spread_1 : decode cX1_spread 1 = .ok (.invokevirtual 72, 3) := by decide +kernel
theorem dX1_spread_4 : decode cX1_spread 4 = .ok (.iconst 0, 1) := by decide +kernel
theorem dX1_spread_5 : decode cX1_spread 5 = .ok (.istore_n 2, 1) := by decide +kernel
theorem dX1_spread_6 : decode cX1_spread 6 = .ok (.iload_n 2, 1) := by decide +kernel
theorem dX1_spread_7 : decode cX1_spread 7 = .ok (.bipush 96, 2) := by decide +kernel
theorem dX1_spread_9 : decode cX1_spread 9 = .ok (.if_icmp .ge 16, 3) := by decide +kernel
theorem dX1_spread_12 : decode cX1_spread 12 = .ok (.aload_n 0, 1) := by decide +kernel
theorem dX1_spread_13 : decode cX1_spread 13 = .ok (.getfield 34, 3) := by decide +kernel
theorem dX1_spread_16 : decode cX1_spread 16 = .ok (.iload_n 2, 1) := by decide +kernel
theorem dX1_spread_17 : decode cX1_spread 17 = .ok (.iconst (-1), 1) := by decide +kernel
theorem dX1_spread_18 : decode cX1_spread 18 = .ok (.iastore, 1) := by decide +kernel
theorem dX1_spread_19 : decode cX1_spread 19 = .ok (.iinc 2 1, 3) := by decide +kernel
theorem dX1_spread_22 : decode cX1_spread 22 = .ok (.goto (-16), 3) := by decide +kernel
theorem dX1_spread_25 : decode cX1_spread 25 = .ok (.aload_n 0, 1) := by decide +kernel
theorem dX1_spread_26 : decode cX1_spread 26 = .ok (.getfield 34, 3) := by decide +kernel
theorem dX1_spread_29 : decode cX1_spread 29 = .ok (.iload_n 1, 1) := by decide +kernel
theorem dX1_spread_30 : decode cX1_spread 30 = .ok (.iconst 0, 1) := by decide +kernel
theorem dX1_spread_31 : decode cX1_spread 31 = .ok (.iastore, 1) := by decide +kernel
theorem dX1_spread_32 : decode cX1_spread 32 = .ok (.aload_n 0, 1) := by decide +kernel
theorem dX1_spread_33 : decode cX1_spread 33 = .ok (.getfield 37, 3) := by decide +kernel
theorem dX1_spread_36 : decode cX1_spread 36 = .ok (.iconst 0, 1) := by decide +kernel
theorem dX1_spread_37 : decode cX1_spread 37 = .ok (.iload_n 1, 1) := by decide +kernel
theorem dX1_spread_38 : decode cX1_spread 38 = .ok (.iastore, 1) := by decide +kernel
theorem dX1_spread_39 : decode cX1_spread 39 = .ok (.aload_n 0, 1) := by decide +kernel
theorem dX1_spread_40 : decode cX1_spread 40 = .ok (.iconst 1, 1) := by decide +kernel
theorem dX1_spread_41 : decode cX1_spread 41 = .ok (.putfield 90, 3) := by decide +kernel
theorem dX1_spread_44 : decode cX1_spread 44 = .ok (.iconst 0, 1) := by decide +kernel
theorem dX1_spread_45 : decode cX1_spread 45 = .ok (.istore_n 2, 1) := by decide +kernel
theorem dX1_spread_46 : decode cX1_spread 46 = .ok (.iload_n 2, 1) := by decide +kernel
theorem dX1_spread_47 : decode cX1_spread 47 = .ok (.aload_n 0, 1) := by decide +kernel
theorem dX1_spread_48 : decode cX1_spread 48 = .ok (.getfield 90, 3) := by decide +kernel
theorem dX1_spread_51 : decode cX1_spread 51 = .ok (.if_icmp .ge 148, 3) := by decide +kernel
theorem dX1_spread_54 : decode cX1_spread 54 = .ok (.iconst 0, 1) := by decide +kernel
theorem dX1_spread_55 : decode cX1_spread 55 = .ok (.istore_n 3, 1) := by decide +kernel
theorem dX1_spread_56 : decode cX1_spread 56 = .ok (.iload_n 3, 1) := by decide +kernel
theorem dX1_spread_57 : decode cX1_spread 57 = .ok (.bipush 6, 2) := by decide +kernel
theorem dX1_spread_59 : decode cX1_spread 59 = .ok (.if_icmp .ge 134, 3) := by decide +kernel
theorem dX1_spread_62 : decode cX1_spread 62 = .ok (.aload_n 0, 1) := by decide +kernel
theorem dX1_spread_63 : decode cX1_spread 63 = .ok (.getfield 37, 3) := by decide +kernel
theorem dX1_spread_66 : decode cX1_spread 66 = .ok (.iload_n 2, 1) := by decide +kernel
theorem dX1_spread_67 : decode cX1_spread 67 = .ok (.iaload, 1) := by decide +kernel
theorem dX1_spread_68 : decode cX1_spread 68 = .ok (.bipush 16, 2) := by decide +kernel
theorem dX1_spread_70 : decode cX1_spread 70 = .ok (.idiv, 1) := by decide +kernel
theorem dX1_spread_71 : decode cX1_spread 71 = .ok (.bipush 6, 2) := by decide +kernel
theorem dX1_spread_73 : decode cX1_spread 73 = .ok (.imul, 1) := by decide +kernel
theorem dX1_spread_74 : decode cX1_spread 74 = .ok (.iload_n 3, 1) := by decide +kernel
theorem dX1_spread_75 : decode cX1_spread 75 = .ok (.iadd, 1) := by decide +kernel
theorem dX1_spread_76 : decode cX1_spread 76 = .ok (.istore 4, 2) := by decide +kernel
theorem dX1_spread_78 : decode cX1_spread 78 = .ok (.aload_n 0, 1) := by decide +kernel
theorem dX1_spread_79 : decode cX1_spread 79 = .ok (.iload 4, 2) := by decide +kernel
theorem dX1_spread_81 : decode cX1_spread 81 = .ok (.invokevirtual 75, 3) := by decide +kernel
theorem dX1_spread_84 : decode cX1_spread 84 = .ok (.ifCond .eq 21, 3) := by decide +kernel
theorem dX1_spread_87 : decode cX1_spread 87 = .ok (.aload_n 0, 1) := by decide +kernel
theorem dX1_spread_88 : decode cX1_spread 88 = .ok (.iload 4, 2) := by decide +kernel
theorem dX1_spread_90 : decode cX1_spread 90 = .ok (.aload_n 0, 1) := by decide +kernel
theorem dX1_spread_91 : decode cX1_spread 91 = .ok (.getfield 37, 3) := by decide +kernel
theorem dX1_spread_94 : decode cX1_spread 94 = .ok (.iload_n 2, 1) := by decide +kernel
theorem dX1_spread_95 : decode cX1_spread 95 = .ok (.iaload, 1) := by decide +kernel
theorem dX1_spread_96 : decode cX1_spread 96 = .ok (.bipush 16, 2) := by decide +kernel
theorem dX1_spread_98 : decode cX1_spread 98 = .ok (.irem, 1) := by decide +kernel
theorem dX1_spread_99 : decode cX1_spread 99 = .ok (.invokevirtual 79, 3) := by decide +kernel
theorem dX1_spread_102 : decode cX1_spread 102 = .ok (.goto 4, 3) := by decide +kernel
theorem dX1_spread_105 : decode cX1_spread 105 = .ok (.iconst (-1), 1) := by decide +kernel
theorem dX1_spread_106 : decode cX1_spread 106 = .ok (.istore 5, 2) := by decide +kernel
theorem dX1_spread_108 : decode cX1_spread 108 = .ok (.iload 5, 2) := by decide +kernel
theorem dX1_spread_110 : decode cX1_spread 110 = .ok (.iconst (-1), 1) := by decide +kernel
theorem dX1_spread_111 : decode cX1_spread 111 = .ok (.if_icmp .ne 7, 3) := by decide +kernel
theorem dX1_spread_114 : decode cX1_spread 114 = .ok (.iload_n 1, 1) := by decide +kernel
theorem dX1_spread_115 : decode cX1_spread 115 = .ok (.goto 18, 3) := by decide +kernel
theorem dX1_spread_118 : decode cX1_spread 118 = .ok (.aload_n 0, 1) := by decide +kernel
theorem dX1_spread_119 : decode cX1_spread 119 = .ok (.getfield 16, 3) := by decide +kernel
theorem dX1_spread_122 : decode cX1_spread 122 = .ok (.iload 4, 2) := by decide +kernel
theorem dX1_spread_124 : decode cX1_spread 124 = .ok (.iaload, 1) := by decide +kernel
theorem dX1_spread_125 : decode cX1_spread 125 = .ok (.bipush 6, 2) := by decide +kernel
theorem dX1_spread_127 : decode cX1_spread 127 = .ok (.idiv, 1) := by decide +kernel
theorem dX1_spread_128 : decode cX1_spread 128 = .ok (.iload 5, 2) := by decide +kernel
theorem dX1_spread_130 : decode cX1_spread 130 = .ok (.invokestatic 93, 3) := by decide +kernel
theorem dX1_spread_133 : decode cX1_spread 133 = .ok (.istore 6, 2) := by decide +kernel
theorem dX1_spread_135 : decode cX1_spread 135 = .ok (.aload_n 0, 1) := by decide +kernel
theorem dX1_spread_136 : decode cX1_spread 136 = .ok (.getfield 34, 3) := by decide +kernel
theorem dX1_spread_139 : decode cX1_spread 139 = .ok (.iload 6, 2) := by decide +kernel
theorem dX1_spread_141 : decode cX1_spread 141 = .ok (.iaload, 1) := by decide +kernel
theorem dX1_spread_142 : decode cX1_spread 142 = .ok (.iconst (-1), 1) := by decide +kernel
theorem dX1_spread_143 : decode cX1_spread 143 = .ok (.if_icmp .ne 44, 3) := by decide +kernel
theorem dX1_spread_146 : decode cX1_spread 146 = .ok (.aload_n 0, 1) := by decide +kernel
theorem dX1_spread_147 : decode cX1_spread 147 = .ok (.getfield 34, 3) := by decide +kernel
theorem dX1_spread_150 : decode cX1_spread 150 = .ok (.iload 6, 2) := by decide +kernel
theorem dX1_spread_152 : decode cX1_spread 152 = .ok (.aload_n 0, 1) := by decide +kernel
theorem dX1_spread_153 : decode cX1_spread 153 = .ok (.getfield 34, 3) := by decide +kernel
theorem dX1_spread_156 : decode cX1_spread 156 = .ok (.aload_n 0, 1) := by decide +kernel
theorem dX1_spread_157 : decode cX1_spread 157 = .ok (.getfield 37, 3) := by decide +kernel
theorem dX1_spread_160 : decode cX1_spread 160 = .ok (.iload_n 2, 1) := by decide +kernel
theorem dX1_spread_161 : decode cX1_spread 161 = .ok (.iaload, 1) := by decide +kernel
theorem dX1_spread_162 : decode cX1_spread 162 = .ok (.iaload, 1) := by decide +kernel
theorem dX1_spread_163 : decode cX1_spread 163 = .ok (.iconst 1, 1) := by decide +kernel
theorem dX1_spread_164 : decode cX1_spread 164 = .ok (.iadd, 1) := by decide +kernel
theorem dX1_spread_165 : decode cX1_spread 165 = .ok (.iastore, 1) := by decide +kernel
theorem dX1_spread_166 : decode cX1_spread 166 = .ok (.aload_n 0, 1) := by decide +kernel
theorem dX1_spread_167 : decode cX1_spread 167 = .ok (.getfield 37, 3) := by decide +kernel
theorem dX1_spread_170 : decode cX1_spread 170 = .ok (.aload_n 0, 1) := by decide +kernel
theorem dX1_spread_171 : decode cX1_spread 171 = .ok (.getfield 90, 3) := by decide +kernel
theorem dX1_spread_174 : decode cX1_spread 174 = .ok (.iload 6, 2) := by decide +kernel
theorem dX1_spread_176 : decode cX1_spread 176 = .ok (.iastore, 1) := by decide +kernel
theorem dX1_spread_177 : decode cX1_spread 177 = .ok (.aload_n 0, 1) := by decide +kernel
theorem dX1_spread_178 : decode cX1_spread 178 = .ok (.dup, 1) := by decide +kernel
theorem dX1_spread_179 : decode cX1_spread 179 = .ok (.getfield 90, 3) := by decide +kernel
theorem dX1_spread_182 : decode cX1_spread 182 = .ok (.iconst 1, 1) := by decide +kernel
theorem dX1_spread_183 : decode cX1_spread 183 = .ok (.iadd, 1) := by decide +kernel
theorem dX1_spread_184 : decode cX1_spread 184 = .ok (.putfield 90, 3) := by decide +kernel
theorem dX1_spread_187 : decode cX1_spread 187 = .ok (.iinc 3 1, 3) := by decide +kernel
theorem dX1_spread_190 : decode cX1_spread 190 = .ok (.goto (-134), 3) := by decide +kernel
theorem dX1_spread_193 : decode cX1_spread 193 = .ok (.iinc 2 1, 3) := by decide +kernel
theorem dX1_spread_196 : decode cX1_spread 196 = .ok (.goto (-150), 3) := by decide +kernel
theorem dX1_spread_199 : decode cX1_spread 199 = .ok (.return_, 1) := by decide +kernel
set_option maxRecDepth 20000 in
theorem ggX1_hops_X1_isPlace : GoodIn wsX1_hops wsX1_isPlace := goodIn_r _ [6, 7, 8, 5, 9] (by decide +kernel) (by decide +kernel)
set_option maxRecDepth 20000 in
theorem gX1_hops_X1_isPlace : GoodIn wsX1_hops (va_wsS RX1 58 yX1_isPlace wsX1_isPlace) := goodIn_app (goodIn_of _ (by decide +kernel)) ggX1_hops_X1_isPlace
set_option maxRecDepth 20000 in
theorem ggX1_hops_X1_place : GoodIn wsX1_hops wsX1_place := goodIn_r _ [12] (by decide +kernel) (by decide +kernel)
set_option maxRecDepth 20000 in
theorem gX1_hops_X1_place : GoodIn wsX1_hops (va_wsS RX1 93 yX1_place wsX1_place) := goodIn_app (goodIn_of _ (by decide +kernel)) ggX1_hops_X1_place
set_option maxRecDepth 20000 in
theorem ggX1_hops_X1_spread : GoodIn wsX1_hops wsX1_spread := goodIn_r _ [16, 2, 17, 18, 19, 20, 21, 22, 5, 23, 24, 25, 26, 27, 28, 29, 30, 31, 32, 33, 34, 35, 36, 37, 38, 39, 40, 41, 42, 43, 10, 11, 12, 44, 45, 46, 47, 48, 49, 50, 51, 52, 53, 54, 55, 56, 57, 58] (by decide +kernel) (by decide +kernel)
set_option maxRecDepth 20000 in
theorem gX1_hops_X1_spread : GoodIn wsX1_hops (wsV RX1 96 RX1 yX1_spread wsX1_spread) := goodIn_app (goodIn_of _ (by decide +kernel)) ggX1_hops_X1_spread
theorem dX1_hops_0 : decode cX1_hops 0 = .ok (.aload_n 0, 1) := by decide +kernel
theorem dX1_hops_1 : decode cX1_hops 1 = .ok (.iload_n 1, 1) := by decide +kernel
theorem dX1_hops_2 : decode cX1_hops 2 = .ok (.iload_n 2, 1) := by decide +kernel
theorem dX1_hops_3 : decode cX1_hops 3 = .ok (.invokestatic 58, 3) := by decide +kernel
theorem dX1_hops_6 : decode cX1_hops 6 = .ok (.ifCond .eq 16, 3) := by decide +kernel
theorem dX1_hops_9 : decode cX1_hops 9 = .ok (.iload_n 3, 1) := by decide +kernel
theorem dX1_hops_10 : decode cX1_hops 10 = .ok (.iload 4, 2) := by decide +kernel
theorem dX1_hops_12 : decode cX1_hops 12 = .ok (.invokestatic 58, 3) := by decide +kernel
theorem dX1_hops_15 : decode cX1_hops 15 = .ok (.ifCond .eq 7, 3) := by decide +kernel
theorem dX1_hops_18 : decode cX1_hops 18 = .ok (.iconst 0, 1) := by decide +kernel
theorem dX1_hops_19 : decode cX1_hops 19 = .ok (.goto 4, 3) := by decide +kernel
theorem dX1_hops_22 : decode cX1_hops 22 = .ok (.iconst 1, 1) := by decide +kernel
theorem dX1_hops_23 : decode cX1_hops 23 = .ok (.putfield 43, 3) := by decide +kernel
theorem dX1_hops_26 : decode cX1_hops 26 = .ok (.aload_n 0, 1) := by decide +kernel
theorem dX1_hops_27 : decode cX1_hops 27 = .ok (.getfield 43, 3) := by decide +kernel
theorem dX1_hops_30 : decode cX1_hops 30 = .ok (.ifCond .le 5, 3) := by decide +kernel
theorem dX1_hops_33 : decode cX1_hops 33 = .ok (.iconst 0, 1) := by decide +kernel
theorem dX1_hops_34 : decode cX1_hops 34 = .ok (.ireturn, 1) := by decide +kernel
theorem dX1_hops_35 : decode cX1_hops 35 = .ok (.aload_n 0, 1) := by decide +kernel
theorem dX1_hops_36 : decode cX1_hops 36 = .ok (.iload_n 1, 1) := by decide +kernel
theorem dX1_hops_37 : decode cX1_hops 37 = .ok (.iload_n 2, 1) := by decide +kernel
theorem dX1_hops_38 : decode cX1_hops 38 = .ok (.invokestatic 93, 3) := by decide +kernel
theorem dX1_hops_41 : decode cX1_hops 41 = .ok (.invokevirtual 96, 3) := by decide +kernel
theorem dX1_hops_44 : decode cX1_hops 44 = .ok (.aload_n 0, 1) := by decide +kernel
theorem dX1_hops_45 : decode cX1_hops 45 = .ok (.getfield 34, 3) := by decide +kernel
theorem dX1_hops_48 : decode cX1_hops 48 = .ok (.iload_n 3, 1) := by decide +kernel
theorem dX1_hops_49 : decode cX1_hops 49 = .ok (.iload 4, 2) := by decide +kernel
theorem dX1_hops_51 : decode cX1_hops 51 = .ok (.invokestatic 93, 3) := by decide +kernel
theorem dX1_hops_54 : decode cX1_hops 54 = .ok (.iaload, 1) := by decide +kernel
theorem dX1_hops_55 : decode cX1_hops 55 = .ok (.ireturn, 1) := by decide +kernel
set_option maxRecDepth 20000 in
theorem ggX1_meet_X1_isPort : GoodIn wsX1_meet wsX1_isPort := goodIn_r _ [7, 8, 9, 6, 10] (by decide +kernel) (by decide +kernel)
set_option maxRecDepth 20000 in
theorem gX1_meet_X1_isPort : GoodIn wsX1_meet (va_wsS RX1 51 yX1_isPort wsX1_isPort) := goodIn_app (goodIn_of _ (by decide +kernel)) ggX1_meet_X1_isPort
set_option maxRecDepth 20000 in
theorem ggX1_meet_X1_place : GoodIn wsX1_meet wsX1_place := goodIn_r _ [13] (by decide +kernel) (by decide +kernel)
set_option maxRecDepth 20000 in
theorem gX1_meet_X1_place : GoodIn wsX1_meet (va_wsS RX1 93 yX1_place wsX1_place) := goodIn_app (goodIn_of _ (by decide +kernel)) ggX1_meet_X1_place
set_option maxRecDepth 20000 in
theorem ggX1_meet_X1_spread : GoodIn wsX1_meet wsX1_spread := goodIn_r _ [17, 3, 18, 19, 20, 21, 22, 23, 6, 24, 25, 26, 27, 28, 29, 30, 31, 32, 33, 34, 35, 36, 37, 38, 2, 39, 40, 41, 42, 43, 11, 12, 13, 44, 45, 46, 47, 48, 49, 50, 51, 52, 53, 54, 55, 56, 57, 58] (by decide +kernel) (by decide +kernel)
set_option maxRecDepth 20000 in
theorem gX1_meet_X1_spread : GoodIn wsX1_meet (wsV RX1 96 RX1 yX1_spread wsX1_spread) := goodIn_app (goodIn_of _ (by decide +kernel)) ggX1_meet_X1_spread
theorem dX1_meet_0 : decode cX1_meet 0 = .ok (.aload_n 0, 1) := by decide +kernel
theorem dX1_meet_1 : decode cX1_meet 1 = .ok (.iload_n 1, 1) := by decide +kernel
theorem dX1_meet_2 : decode cX1_meet 2 = .ok (.iload_n 2, 1) := by decide +kernel
theorem dX1_meet_3 : decode cX1_meet 3 = .ok (.invokestatic 51, 3) := by decide +kernel
theorem dX1_meet_6 : decode cX1_meet 6 = .ok (.ifCond .eq 16, 3) := by decide +kernel
theorem dX1_meet_9 : decode cX1_meet 9 = .ok (.iload_n 3, 1) := by decide +kernel
theorem dX1_meet_10 : decode cX1_meet 10 = .ok (.iload 4, 2) := by decide +kernel
theorem dX1_meet_12 : decode cX1_meet 12 = .ok (.invokestatic 51, 3) := by decide +kernel
theorem dX1_meet_15 : decode cX1_meet 15 = .ok (.ifCond .eq 7, 3) := by decide +kernel
theorem dX1_meet_18 : decode cX1_meet 18 = .ok (.iconst 0, 1) := by decide +kernel
theorem dX1_meet_19 : decode cX1_meet 19 = .ok (.goto 4, 3) := by decide +kernel
theorem dX1_meet_22 : decode cX1_meet 22 = .ok (.iconst 1, 1) := by decide +kernel
theorem dX1_meet_23 : decode cX1_meet 23 = .ok (.putfield 43, 3) := by decide +kernel
theorem dX1_meet_26 : decode cX1_meet 26 = .ok (.aload_n 0, 1) := by decide +kernel
theorem dX1_meet_27 : decode cX1_meet 27 = .ok (.getfield 43, 3) := by decide +kernel
theorem dX1_meet_30 : decode cX1_meet 30 = .ok (.ifCond .le 5, 3) := by decide +kernel
theorem dX1_meet_33 : decode cX1_meet 33 = .ok (.iconst 0, 1) := by decide +kernel
theorem dX1_meet_34 : decode cX1_meet 34 = .ok (.ireturn, 1) := by decide +kernel
theorem dX1_meet_35 : decode cX1_meet 35 = .ok (.aload_n 0, 1) := by decide +kernel
theorem dX1_meet_36 : decode cX1_meet 36 = .ok (.getfield 7, 3) := by decide +kernel
theorem dX1_meet_39 : decode cX1_meet 39 = .ok (.bipush 6, 2) := by decide +kernel
theorem dX1_meet_41 : decode cX1_meet 41 = .ok (.iload_n 1, 1) := by decide +kernel
theorem dX1_meet_42 : decode cX1_meet 42 = .ok (.imul, 1) := by decide +kernel
theorem dX1_meet_43 : decode cX1_meet 43 = .ok (.iload_n 2, 1) := by decide +kernel
theorem dX1_meet_44 : decode cX1_meet 44 = .ok (.iadd, 1) := by decide +kernel
theorem dX1_meet_45 : decode cX1_meet 45 = .ok (.iaload, 1) := by decide +kernel
theorem dX1_meet_46 : decode cX1_meet 46 = .ok (.istore 5, 2) := by decide +kernel
theorem dX1_meet_48 : decode cX1_meet 48 = .ok (.aload_n 0, 1) := by decide +kernel
theorem dX1_meet_49 : decode cX1_meet 49 = .ok (.getfield 7, 3) := by decide +kernel
theorem dX1_meet_52 : decode cX1_meet 52 = .ok (.bipush 6, 2) := by decide +kernel
theorem dX1_meet_54 : decode cX1_meet 54 = .ok (.iload_n 3, 1) := by decide +kernel
theorem dX1_meet_55 : decode cX1_meet 55 = .ok (.imul, 1) := by decide +kernel
theorem dX1_meet_56 : decode cX1_meet 56 = .ok (.iload 4, 2) := by decide +kernel
theorem dX1_meet_58 : decode cX1_meet 58 = .ok (.iadd, 1) := by decide +kernel
theorem dX1_meet_59 : decode cX1_meet 59 = .ok (.iaload, 1) := by decide +kernel
theorem dX1_meet_60 : decode cX1_meet 60 = .ok (.istore 6, 2) := by decide +kernel
theorem dX1_meet_62 : decode cX1_meet 62 = .ok (.iload 5, 2) := by decide +kernel
theorem dX1_meet_64 : decode cX1_meet 64 = .ok (.ifCond .eq 8, 3) := by decide +kernel
theorem dX1_meet_67 : decode cX1_meet 67 = .ok (.iload 6, 2) := by decide +kernel
theorem dX1_meet_69 : decode cX1_meet 69 = .ok (.ifCond .ne 5, 3) := by decide +kernel
theorem dX1_meet_72 : decode cX1_meet 72 = .ok (.iconst 0, 1) := by decide +kernel
theorem dX1_meet_73 : decode cX1_meet 73 = .ok (.ireturn, 1) := by decide +kernel
theorem dX1_meet_74 : decode cX1_meet 74 = .ok (.aload_n 0, 1) := by decide +kernel
theorem dX1_meet_75 : decode cX1_meet 75 = .ok (.iload_n 1, 1) := by decide +kernel
theorem dX1_meet_76 : decode cX1_meet 76 = .ok (.iload 5, 2) := by decide +kernel
theorem dX1_meet_78 : decode cX1_meet 78 = .ok (.invokestatic 93, 3) := by decide +kernel
theorem dX1_meet_81 : decode cX1_meet 81 = .ok (.invokevirtual 96, 3) := by decide +kernel
theorem dX1_meet_84 : decode cX1_meet 84 = .ok (.aload_n 0, 1) := by decide +kernel
theorem dX1_meet_85 : decode cX1_meet 85 = .ok (.getfield 34, 3) := by decide +kernel
theorem dX1_meet_88 : decode cX1_meet 88 = .ok (.iload_n 3, 1) := by decide +kernel
theorem dX1_meet_89 : decode cX1_meet 89 = .ok (.iload 6, 2) := by decide +kernel
theorem dX1_meet_91 : decode cX1_meet 91 = .ok (.invokestatic 93, 3) := by decide +kernel
theorem dX1_meet_94 : decode cX1_meet 94 = .ok (.iaload, 1) := by decide +kernel
theorem dX1_meet_95 : decode cX1_meet 95 = .ok (.iconst (-1), 1) := by decide +kernel
theorem dX1_meet_96 : decode cX1_meet 96 = .ok (.if_icmp .eq 7, 3) := by decide +kernel
theorem dX1_meet_99 : decode cX1_meet 99 = .ok (.iconst 1, 1) := by decide +kernel
theorem dX1_meet_100 : decode cX1_meet 100 = .ok (.goto 4, 3) := by decide +kernel
theorem dX1_meet_103 : decode cX1_meet 103 = .ok (.iconst 0, 1) := by decide +kernel
theorem dX1_meet_104 : decode cX1_meet 104 = .ok (.ireturn, 1) := by decide +kernel
set_option maxRecDepth 20000 in
theorem ggX1_joined_X1_isPlace : GoodIn wsX1_joined wsX1_isPlace := goodIn_r _ [6, 7, 8, 5, 9] (by decide +kernel) (by decide +kernel)
set_option maxRecDepth 20000 in
theorem gX1_joined_X1_isPlace : GoodIn wsX1_joined (va_wsS RX1 58 yX1_isPlace wsX1_isPlace) := goodIn_app (goodIn_of _ (by decide +kernel)) ggX1_joined_X1_isPlace
set_option maxRecDepth 20000 in
theorem ggX1_joined_X1_place : GoodIn wsX1_joined wsX1_place := goodIn_r _ [12] (by decide +kernel) (by decide +kernel)
set_option maxRecDepth 20000 in
theorem gX1_joined_X1_place : GoodIn wsX1_joined (va_wsS RX1 93 yX1_place wsX1_place) := goodIn_app (goodIn_of _ (by decide +kernel)) ggX1_joined_X1_place
set_option maxRecDepth 20000 in
theorem ggX1_joined_X1_spread : GoodIn wsX1_joined wsX1_spread := goodIn_r _ [16, 17, 18, 2, 19, 20, 21, 22, 5, 23, 24, 25, 26, 27, 28, 29, 30, 31, 32, 33, 34, 35, 36, 37, 38, 39, 40, 41, 42, 43, 10, 11, 12, 44, 45, 46, 47, 48, 49, 50, 51, 52, 53, 54, 55, 56, 57, 58] (by decide +kernel) (by decide +kernel)
set_option maxRecDepth 20000 in
theorem gX1_joined_X1_spread : GoodIn wsX1_joined (wsV RX1 96 RX1 yX1_spread wsX1_spread) := goodIn_app (goodIn_of _ (by decide +kernel)) ggX1_joined_X1_spread
theorem dX1_joined_0 : decode cX1_joined 0 = .ok (.aload_n 0, 1) := by decide +kernel
theorem dX1_joined_1 : decode cX1_joined 1 = .ok (.iload_n 1, 1) := by decide +kernel
theorem dX1_joined_2 : decode cX1_joined 2 = .ok (.iload_n 2, 1) := by decide +kernel
theorem dX1_joined_3 : decode cX1_joined 3 = .ok (.invokestatic 58, 3) := by decide +kernel
theorem dX1_joined_6 : decode cX1_joined 6 = .ok (.ifCond .eq 7, 3) := by decide +kernel
theorem dX1_joined_9 : decode cX1_joined 9 = .ok (.iconst 0, 1) := by decide +kernel
theorem dX1_joined_10 : decode cX1_joined 10 = .ok (.goto 4, 3) := by decide +kernel
theorem dX1_joined_13 : decode cX1_joined 13 = .ok (.iconst 1, 1) := by decide +kernel
theorem dX1_joined_14 : decode cX1_joined 14 = .ok (.putfield 43, 3) := by decide +kernel
theorem dX1_joined_17 : decode cX1_joined 17 = .ok (.aload_n 0, 1) := by decide +kernel
theorem dX1_joined_18 : decode cX1_joined 18 = .ok (.getfield 43, 3) := by decide +kernel
theorem dX1_joined_21 : decode cX1_joined 21 = .ok (.ifCond .le 5, 3) := by decide +kernel
theorem dX1_joined_24 : decode cX1_joined 24 = .ok (.iconst 0, 1) := by decide +kernel
theorem dX1_joined_25 : decode cX1_joined 25 = .ok (.ireturn, 1) := by decide +kernel
theorem dX1_joined_26 : decode cX1_joined 26 = .ok (.aload_n 0, 1) := by decide +kernel
theorem dX1_joined_27 : decode cX1_joined 27 = .ok (.iload_n 1, 1) := by decide +kernel
theorem dX1_joined_28 : decode cX1_joined 28 = .ok (.iload_n 2, 1) := by decide +kernel
theorem dX1_joined_29 : decode cX1_joined 29 = .ok (.invokestatic 93, 3) := by decide +kernel
theorem dX1_joined_32 : decode cX1_joined 32 = .ok (.invokevirtual 96, 3) := by decide +kernel
theorem dX1_joined_35 : decode cX1_joined 35 = .ok (.aload_n 0, 1) := by decide +kernel
theorem dX1_joined_36 : decode cX1_joined 36 = .ok (.getfield 90, 3) := by decide +kernel
theorem dX1_joined_39 : decode cX1_joined 39 = .ok (.ireturn, 1) := by decide +kernel
set_option maxRecDepth 20000 in
theorem ggX1_isUsed_X1_isTagged : GoodIn wsX1_isUsed wsX1_isTagged := goodIn_r _ [6, 7, 8, 9, 10, 11, 12, 13, 14, 15, 16, 17, 18, 19, 20, 21, 22] (by decide +kernel) (by decide +kernel)
set_option maxRecDepth 20000 in
theorem gX1_isUsed_X1_isTagged : GoodIn wsX1_isUsed (wsV RX1 55 RX1 yX1_isTagged wsX1_isTagged) := goodIn_app (goodIn_of _ (by decide +kernel)) ggX1_isUsed_X1_isTagged
theorem dX1_isUsed_0 : decode cX1_isUsed 0 = .ok (.iconst 0, 1) := by decide +kernel
theorem dX1_isUsed_1 : decode cX1_isUsed 1 = .ok (.istore_n 2, 1) := by decide +kernel
theorem dX1_isUsed_2 : decode cX1_isUsed 2 = .ok (.iload_n 1, 1) := by decide +kernel
theorem dX1_isUsed_3 : decode cX1_isUsed 3 = .ok (.bipush 16, 2) := by decide +kernel
theorem dX1_isUsed_5 : decode cX1_isUsed 5 = .ok (.idiv, 1) := by decide +kernel
theorem dX1_isUsed_6 : decode cX1_isUsed 6 = .ok (.bipush 6, 2) := by decide +kernel
theorem dX1_isUsed_8 : decode cX1_isUsed 8 = .ok (.imul, 1) := by decide +kernel
theorem dX1_isUsed_9 : decode cX1_isUsed 9 = .ok (.istore_n 3, 1) := by decide +kernel
theorem dX1_isUsed_10 : decode cX1_isUsed 10 = .ok (.iload_n 3, 1) := by decide +kernel
theorem dX1_isUsed_11 : decode cX1_isUsed 11 = .ok (.iload_n 1, 1) := by decide +kernel
theorem dX1_isUsed_12 : decode cX1_isUsed 12 = .ok (.bipush 16, 2) := by decide +kernel
theorem dX1_isUsed_14 : decode cX1_isUsed 14 = .ok (.idiv, 1) := by decide +kernel
theorem dX1_isUsed_15 : decode cX1_isUsed 15 = .ok (.bipush 6, 2) := by decide +kernel
theorem dX1_isUsed_17 : decode cX1_isUsed 17 = .ok (.imul, 1) := by decide +kernel
theorem dX1_isUsed_18 : decode cX1_isUsed 18 = .ok (.bipush 6, 2) := by decide +kernel
theorem dX1_isUsed_20 : decode cX1_isUsed 20 = .ok (.iadd, 1) := by decide +kernel
theorem dX1_isUsed_21 : decode cX1_isUsed 21 = .ok (.if_icmp .ge 44, 3) := by decide +kernel
theorem dX1_isUsed_24 : decode cX1_isUsed 24 = .ok (.iload_n 2, 1) := by decide +kernel
theorem dX1_isUsed_25 : decode cX1_isUsed 25 = .ok (.ifCond .ne 28, 3) := by decide +kernel
theorem dX1_isUsed_28 : decode cX1_isUsed 28 = .ok (.aload_n 0, 1) := by decide +kernel
theorem dX1_isUsed_29 : decode cX1_isUsed 29 = .ok (.iload_n 3, 1) := by decide +kernel
theorem dX1_isUsed_30 : decode cX1_isUsed 30 = .ok (.iload_n 1, 1) := by decide +kernel
theorem dX1_isUsed_31 : decode cX1_isUsed 31 = .ok (.bipush 16, 2) := by decide +kernel
theorem dX1_isUsed_33 : decode cX1_isUsed 33 = .ok (.irem, 1) := by decide +kernel
theorem dX1_isUsed_34 : decode cX1_isUsed 34 = .ok (.invokevirtual 55, 3) := by decide +kernel
theorem dX1_isUsed_37 : decode cX1_isUsed 37 = .ok (.ifCond .ne 16, 3) := by decide +kernel
theorem dX1_isUsed_40 : decode cX1_isUsed 40 = .ok (.aload_n 0, 1) := by decide +kernel
theorem dX1_isUsed_41 : decode cX1_isUsed 41 = .ok (.getfield 7, 3) := by decide +kernel
theorem dX1_isUsed_44 : decode cX1_isUsed 44 = .ok (.iload_n 3, 1) := by decide +kernel
theorem dX1_isUsed_45 : decode cX1_isUsed 45 = .ok (.iaload, 1) := by decide +kernel
theorem dX1_isUsed_46 : decode cX1_isUsed 46 = .ok (.iload_n 1, 1) := by decide +kernel
theorem dX1_isUsed_47 : decode cX1_isUsed 47 = .ok (.bipush 16, 2) := by decide +kernel
theorem dX1_isUsed_49 : decode cX1_isUsed 49 = .ok (.irem, 1) := by decide +kernel
theorem dX1_isUsed_50 : decode cX1_isUsed 50 = .ok (.if_icmp .ne 7, 3) := by decide +kernel
theorem dX1_isUsed_53 : decode cX1_isUsed 53 = .ok (.iconst 1, 1) := by decide +kernel
theorem dX1_isUsed_54 : decode cX1_isUsed 54 = .ok (.goto 4, 3) := by decide +kernel
theorem dX1_isUsed_57 : decode cX1_isUsed 57 = .ok (.iconst 0, 1) := by decide +kernel
theorem dX1_isUsed_58 : decode cX1_isUsed 58 = .ok (.istore_n 2, 1) := by decide +kernel
theorem dX1_isUsed_59 : decode cX1_isUsed 59 = .ok (.iinc 3 1, 3) := by decide +kernel
theorem dX1_isUsed_62 : decode cX1_isUsed 62 = .ok (.goto (-52), 3) := by decide +kernel
theorem dX1_isUsed_65 : decode cX1_isUsed 65 = .ok (.iload_n 2, 1) := by decide +kernel
theorem dX1_isUsed_66 : decode cX1_isUsed 66 = .ok (.ifCond .eq 14, 3) := by decide +kernel
theorem dX1_isUsed_69 : decode cX1_isUsed 69 = .ok (.iload_n 1, 1) := by decide +kernel
theorem dX1_isUsed_70 : decode cX1_isUsed 70 = .ok (.bipush 16, 2) := by decide +kernel
theorem dX1_isUsed_72 : decode cX1_isUsed 72 = .ok (.irem, 1) := by decide +kernel
theorem dX1_isUsed_73 : decode cX1_isUsed 73 = .ok (.ifCond .le 7, 3) := by decide +kernel
theorem dX1_isUsed_76 : decode cX1_isUsed 76 = .ok (.iconst 1, 1) := by decide +kernel
theorem dX1_isUsed_77 : decode cX1_isUsed 77 = .ok (.goto 4, 3) := by decide +kernel
theorem dX1_isUsed_80 : decode cX1_isUsed 80 = .ok (.iconst 0, 1) := by decide +kernel
theorem dX1_isUsed_81 : decode cX1_isUsed 81 = .ok (.ireturn, 1) := by decide +kernel
set_option maxRecDepth 20000 in
theorem ggX1_islandMany_X1_isUsed : GoodIn wsX1_islandMany wsX1_isUsed := goodIn_r _ [6, 7, 8, 9, 10, 5, 11, 12, 41, 42, 43, 44, 45, 46, 47, 48, 49, 50, 51, 52, 53, 54, 55] (by decide +kernel) (by decide +kernel)
set_option maxRecDepth 20000 in
theorem gX1_islandMany_X1_isUsed : GoodIn wsX1_islandMany (wsV RX1 100 RX1 yX1_isUsed wsX1_isUsed) := goodIn_app (goodIn_of _ (by decide +kernel)) ggX1_islandMany_X1_isUsed
set_option maxRecDepth 20000 in
theorem ggX1_islandMany_X1_spread : GoodIn wsX1_islandMany wsX1_spread := goodIn_r _ [16, 1, 17, 18, 19, 20, 21, 22, 5, 23, 24, 25, 26, 27, 28, 29, 30, 31, 32, 33, 34, 35, 36, 37, 7, 8, 9, 10, 11, 12, 38, 39, 40, 41, 42, 43, 44, 45, 46, 47, 48, 49, 50, 51, 52, 53, 54, 55] (by decide +kernel) (by decide +kernel)
set_option maxRecDepth 20000 in
theorem gX1_islandMany_X1_spread : GoodIn wsX1_islandMany (wsV RX1 96 RX1 yX1_spread wsX1_spread) := goodIn_app (goodIn_of _ (by decide +kernel)) ggX1_islandMany_X1_spread
theorem dX1_islandMany_0 : decode cX1_islandMany 0 = .ok (.iconst 0, 1) := by decide +kernel
theorem dX1_islandMany_1 : decode cX1_islandMany 1 = .ok (.istore_n 1, 1) := by decide +kernel
theorem dX1_islandMany_2 : decode cX1_islandMany 2 = .ok (.iconst 0, 1) := by decide +kernel
theorem dX1_islandMany_3 : decode cX1_islandMany 3 = .ok (.istore_n 2, 1) := by decide +kernel
theorem dX1_islandMany_4 : decode cX1_islandMany 4 = .ok (.iload_n 2, 1) := by decide +kernel
theorem dX1_islandMany_5 : decode cX1_islandMany 5 = .ok (.bipush 96, 2) := by decide +kernel
theorem dX1_islandMany_7 : decode cX1_islandMany 7 = .ok (.if_icmp .ge 72, 3) := by decide +kernel
theorem dX1_islandMany_10 : decode cX1_islandMany 10 = .ok (.aload_n 0, 1) := by decide +kernel
theorem dX1_islandMany_11 : decode cX1_islandMany 11 = .ok (.iload_n 2, 1) := by decide +kernel
theorem dX1_islandMany_12 : decode cX1_islandMany 12 = .ok (.invokevirtual 100, 3) := by decide +kernel
theorem dX1_islandMany_15 : decode cX1_islandMany 15 = .ok (.istore_n 3, 1) := by decide +kernel
theorem dX1_islandMany_16 : decode cX1_islandMany 16 = .ok (.iload_n 3, 1) := by decide +kernel
theorem dX1_islandMany_17 : decode cX1_islandMany 17 = .ok (.ifCond .eq 8, 3) := by decide +kernel
theorem dX1_islandMany_20 : decode cX1_islandMany 20 = .ok (.aload_n 0, 1) := by decide +kernel
theorem dX1_islandMany_21 : decode cX1_islandMany 21 = .ok (.iload_n 2, 1) := by decide +kernel
theorem dX1_islandMany_22 : decode cX1_islandMany 22 = .ok (.invokevirtual 96, 3) := by decide +kernel
theorem dX1_islandMany_25 : decode cX1_islandMany 25 = .ok (.iconst 0, 1) := by decide +kernel
theorem dX1_islandMany_26 : decode cX1_islandMany 26 = .ok (.istore 4, 2) := by decide +kernel
theorem dX1_islandMany_28 : decode cX1_islandMany 28 = .ok (.iload 4, 2) := by decide +kernel
theorem dX1_islandMany_30 : decode cX1_islandMany 30 = .ok (.iload_n 2, 1) := by decide +kernel
theorem dX1_islandMany_31 : decode cX1_islandMany 31 = .ok (.if_icmp .ge 30, 3) := by decide +kernel
theorem dX1_islandMany_34 : decode cX1_islandMany 34 = .ok (.iload_n 3, 1) := by decide +kernel
theorem dX1_islandMany_35 : decode cX1_islandMany 35 = .ok (.ifCond .eq 18, 3) := by decide +kernel
theorem dX1_islandMany_38 : decode cX1_islandMany 38 = .ok (.aload_n 0, 1) := by decide +kernel
theorem dX1_islandMany_39 : decode cX1_islandMany 39 = .ok (.getfield 34, 3) := by decide +kernel
theorem dX1_islandMany_42 : decode cX1_islandMany 42 = .ok (.iload 4, 2) := by decide +kernel
theorem dX1_islandMany_44 : decode cX1_islandMany 44 = .ok (.iaload, 1) := by decide +kernel
theorem dX1_islandMany_45 : decode cX1_islandMany 45 = .ok (.iconst (-1), 1) := by decide +kernel
theorem dX1_islandMany_46 : decode cX1_islandMany 46 = .ok (.if_icmp .ne 7, 3) := by decide +kernel
theorem dX1_islandMany_49 : decode cX1_islandMany 49 = .ok (.iconst 1, 1) := by decide +kernel
theorem dX1_islandMany_50 : decode cX1_islandMany 50 = .ok (.goto 4, 3) := by decide +kernel
theorem dX1_islandMany_53 : decode cX1_islandMany 53 = .ok (.iconst 0, 1) := by decide +kernel
theorem dX1_islandMany_54 : decode cX1_islandMany 54 = .ok (.istore_n 3, 1) := by decide +kernel
theorem dX1_islandMany_55 : decode cX1_islandMany 55 = .ok (.iinc 4 1, 3) := by decide +kernel
theorem dX1_islandMany_58 : decode cX1_islandMany 58 = .ok (.goto (-30), 3) := by decide +kernel
theorem dX1_islandMany_61 : decode cX1_islandMany 61 = .ok (.iload_n 1, 1) := by decide +kernel
theorem dX1_islandMany_62 : decode cX1_islandMany 62 = .ok (.iload_n 3, 1) := by decide +kernel
theorem dX1_islandMany_63 : decode cX1_islandMany 63 = .ok (.ifCond .eq 7, 3) := by decide +kernel
theorem dX1_islandMany_66 : decode cX1_islandMany 66 = .ok (.iconst 1, 1) := by decide +kernel
theorem dX1_islandMany_67 : decode cX1_islandMany 67 = .ok (.goto 4, 3) := by decide +kernel
theorem dX1_islandMany_70 : decode cX1_islandMany 70 = .ok (.iconst 0, 1) := by decide +kernel
theorem dX1_islandMany_71 : decode cX1_islandMany 71 = .ok (.iadd, 1) := by decide +kernel
theorem dX1_islandMany_72 : decode cX1_islandMany 72 = .ok (.istore_n 1, 1) := by decide +kernel
theorem dX1_islandMany_73 : decode cX1_islandMany 73 = .ok (.iinc 2 1, 3) := by decide +kernel
theorem dX1_islandMany_76 : decode cX1_islandMany 76 = .ok (.goto (-72), 3) := by decide +kernel
theorem dX1_islandMany_79 : decode cX1_islandMany 79 = .ok (.iload_n 1, 1) := by decide +kernel
theorem dX1_islandMany_80 : decode cX1_islandMany 80 = .ok (.ireturn, 1) := by decide +kernel
set_option maxRecDepth 20000 in
theorem ggX1_islands_X1_islandMany : GoodIn wsX1_islands wsX1_islandMany := goodIn_r _ [6, 7, 8, 9, 10, 5, 11, 12, 13, 14, 15, 16, 17, 18, 19, 20, 21, 22, 23, 24, 25, 26, 27, 28, 29, 30, 31, 32, 33, 34, 35, 36, 37, 38, 39, 40, 41, 42, 43, 44, 45, 46, 47, 48, 49, 50, 51, 52, 53, 54, 55, 56, 57, 58, 59, 60] (by decide +kernel) (by decide +kernel)
set_option maxRecDepth 20000 in
theorem gX1_islands_X1_islandMany : GoodIn wsX1_islands (wsV RX1 103 RX1 yX1_islandMany wsX1_islandMany) := goodIn_app (goodIn_of _ (by decide +kernel)) ggX1_islands_X1_islandMany
theorem dX1_islands_0 : decode cX1_islands 0 = .ok (.aload_n 0, 1) := by decide +kernel
theorem dX1_islands_1 : decode cX1_islands 1 = .ok (.iconst 0, 1) := by decide +kernel
theorem dX1_islands_2 : decode cX1_islands 2 = .ok (.putfield 43, 3) := by decide +kernel
theorem dX1_islands_5 : decode cX1_islands 5 = .ok (.aload_n 0, 1) := by decide +kernel
theorem dX1_islands_6 : decode cX1_islands 6 = .ok (.invokevirtual 103, 3) := by decide +kernel
theorem dX1_islands_9 : decode cX1_islands 9 = .ok (.ireturn, 1) := by decide +kernel
set_option maxRecDepth 20000 in
theorem ggX1_loops_X1_islandMany : GoodIn wsX1_loops wsX1_islandMany := goodIn_r _ [7, 8, 9, 10, 11, 6, 12, 13, 14, 15, 16, 17, 18, 19, 20, 21, 22, 23, 24, 2, 25, 26, 27, 28, 29, 30, 31, 32, 33, 34, 35, 36, 37, 38, 39, 40, 41, 42, 43, 44, 45, 46, 47, 48, 49, 50, 51, 52, 53, 54, 55, 56, 57, 58, 59, 60] (by decide +kernel) (by decide +kernel)
set_option maxRecDepth 20000 in
theorem gX1_loops_X1_islandMany : GoodIn wsX1_loops (wsV RX1 103 RX1 yX1_islandMany wsX1_islandMany) := goodIn_app (goodIn_of _ (by decide +kernel)) ggX1_loops_X1_islandMany
set_option maxRecDepth 20000 in
theorem ggX1_loops_X1_layTree : GoodIn wsX1_loops wsX1_layTree := goodIn_r _ [28, 29, 2, 30, 31, 32, 33, 46, 47, 48, 49, 50, 51, 52, 53, 54, 55, 56, 57, 58, 59, 60] (by decide +kernel) (by decide +kernel)
set_option maxRecDepth 20000 in
theorem gX1_loops_X1_layTree : GoodIn wsX1_loops (wsV RX1 72 RX1 yX1_layTree wsX1_layTree) := goodIn_app (goodIn_of _ (by decide +kernel)) ggX1_loops_X1_layTree
set_option maxRecDepth 20000 in
theorem ggX1_loops_X1_isUsed : GoodIn wsX1_loops wsX1_isUsed := goodIn_r _ [12, 13, 14, 15, 16, 6, 17, 18, 46, 47, 48, 49, 50, 51, 52, 53, 54, 55, 56, 57, 58, 59, 60] (by decide +kernel) (by decide +kernel)
set_option maxRecDepth 20000 in
theorem gX1_loops_X1_isUsed : GoodIn wsX1_loops (wsV RX1 100 RX1 yX1_isUsed wsX1_isUsed) := goodIn_app (goodIn_of _ (by decide +kernel)) ggX1_loops_X1_isUsed
set_option maxRecDepth 20000 in
theorem ggX1_loops_X1_isLive : GoodIn wsX1_loops wsX1_isLive := goodIn_r _ [37, 2, 38, 33, 46, 47, 48, 49, 50, 51, 52, 53, 54, 55, 56, 57, 58, 59, 60] (by decide +kernel) (by decide +kernel)
set_option maxRecDepth 20000 in
theorem gX1_loops_X1_isLive : GoodIn wsX1_loops (wsV RX1 75 RX1 yX1_isLive wsX1_isLive) := goodIn_app (goodIn_of _ (by decide +kernel)) ggX1_loops_X1_isLive
set_option maxRecDepth 20000 in
theorem ggX1_loops_X1_carried : GoodIn wsX1_loops wsX1_carried := goodIn_r _ [42, 2, 13, 14, 15, 16, 6, 17, 18, 46, 47, 48, 49, 50, 51, 52, 53, 54, 55, 56, 57, 58, 59, 60] (by decide +kernel) (by decide +kernel)
set_option maxRecDepth 20000 in
theorem gX1_loops_X1_carried : GoodIn wsX1_loops (wsV RX1 79 RX1 yX1_carried wsX1_carried) := goodIn_app (goodIn_of _ (by decide +kernel)) ggX1_loops_X1_carried
theorem dX1_loops_0 : decode cX1_loops 0 = .ok (.aload_n 0, 1) := by decide +kernel
theorem dX1_loops_1 : decode cX1_loops 1 = .ok (.iconst 0, 1) := by decide +kernel
theorem dX1_loops_2 : decode cX1_loops 2 = .ok (.putfield 43, 3) := by decide +kernel
theorem dX1_loops_5 : decode cX1_loops 5 = .ok (.aload_n 0, 1) := by decide +kernel
theorem dX1_loops_6 : decode cX1_loops 6 = .ok (.invokevirtual 103, 3) := by decide +kernel
theorem dX1_loops_9 : decode cX1_loops 9 = .ok (.istore_n 1, 1) := by decide +kernel
theorem dX1_loops_10 : decode cX1_loops 10 = .ok (.aload_n 0, 1) := by decide +kernel
theorem dX1_loops_11 : decode cX1_loops 11 = .ok (.invokevirtual 72, 3) := by decide +kernel
theorem dX1_loops_14 : decode cX1_loops 14 = .ok (.iconst 0, 1) := by decide +kernel
theorem dX1_loops_15 : decode cX1_loops 15 = .ok (.istore_n 2, 1) := by decide +kernel
theorem dX1_loops_16 : decode cX1_loops 16 = .ok (.iload_n 2, 1) := by decide +kernel
theorem dX1_loops_17 : decode cX1_loops 17 = .ok (.bipush 96, 2) := by decide +kernel
theorem dX1_loops_19 : decode cX1_loops 19 = .ok (.if_icmp .ge 100, 3) := by decide +kernel
theorem dX1_loops_22 : decode cX1_loops 22 = .ok (.iload_n 1, 1) := by decide +kernel
theorem dX1_loops_23 : decode cX1_loops 23 = .ok (.aload_n 0, 1) := by decide +kernel
theorem dX1_loops_24 : decode cX1_loops 24 = .ok (.iload_n 2, 1) := by decide +kernel
theorem dX1_loops_25 : decode cX1_loops 25 = .ok (.invokevirtual 100, 3) := by decide +kernel
theorem dX1_loops_28 : decode cX1_loops 28 = .ok (.ifCond .eq 7, 3) := by decide +kernel
theorem dX1_loops_31 : decode cX1_loops 31 = .ok (.iconst 1, 1) := by decide +kernel
theorem dX1_loops_32 : decode cX1_loops 32 = .ok (.goto 4, 3) := by decide +kernel
theorem dX1_loops_35 : decode cX1_loops 35 = .ok (.iconst 0, 1) := by decide +kernel
theorem dX1_loops_36 : decode cX1_loops 36 = .ok (.isub, 1) := by decide +kernel
theorem dX1_loops_37 : decode cX1_loops 37 = .ok (.istore_n 1, 1) := by decide +kernel
theorem dX1_loops_38 : decode cX1_loops 38 = .ok (.iconst 0, 1) := by decide +kernel
theorem dX1_loops_39 : decode cX1_loops 39 = .ok (.istore_n 3, 1) := by decide +kernel
theorem dX1_loops_40 : decode cX1_loops 40 = .ok (.iload_n 3, 1) := by decide +kernel
theorem dX1_loops_41 : decode cX1_loops 41 = .ok (.bipush 6, 2) := by decide +kernel
theorem dX1_loops_43 : decode cX1_loops 43 = .ok (.if_icmp .ge 70, 3) := by decide +kernel
theorem dX1_loops_46 : decode cX1_loops 46 = .ok (.iload_n 2, 1) := by decide +kernel
theorem dX1_loops_47 : decode cX1_loops 47 = .ok (.bipush 16, 2) := by decide +kernel
theorem dX1_loops_49 : decode cX1_loops 49 = .ok (.irem, 1) := by decide +kernel
theorem dX1_loops_50 : decode cX1_loops 50 = .ok (.ifCond .le 63, 3) := by decide +kernel
theorem dX1_loops_53 : decode cX1_loops 53 = .ok (.iload_n 2, 1) := by decide +kernel
theorem dX1_loops_54 : decode cX1_loops 54 = .ok (.bipush 16, 2) := by decide +kernel
theorem dX1_loops_56 : decode cX1_loops 56 = .ok (.idiv, 1) := by decide +kernel
theorem dX1_loops_57 : decode cX1_loops 57 = .ok (.bipush 6, 2) := by decide +kernel
theorem dX1_loops_59 : decode cX1_loops 59 = .ok (.imul, 1) := by decide +kernel
theorem dX1_loops_60 : decode cX1_loops 60 = .ok (.iload_n 3, 1) := by decide +kernel
theorem dX1_loops_61 : decode cX1_loops 61 = .ok (.iadd, 1) := by decide +kernel
theorem dX1_loops_62 : decode cX1_loops 62 = .ok (.istore 4, 2) := by decide +kernel
theorem dX1_loops_64 : decode cX1_loops 64 = .ok (.iload_n 1, 1) := by decide +kernel
theorem dX1_loops_65 : decode cX1_loops 65 = .ok (.aload_n 0, 1) := by decide +kernel
theorem dX1_loops_66 : decode cX1_loops 66 = .ok (.iload 4, 2) := by decide +kernel
theorem dX1_loops_68 : decode cX1_loops 68 = .ok (.invokevirtual 75, 3) := by decide +kernel
theorem dX1_loops_71 : decode cX1_loops 71 = .ok (.ifCond .eq 33, 3) := by decide +kernel
theorem dX1_loops_74 : decode cX1_loops 74 = .ok (.iload 4, 2) := by decide +kernel
theorem dX1_loops_76 : decode cX1_loops 76 = .ok (.aload_n 0, 1) := by decide +kernel
theorem dX1_loops_77 : decode cX1_loops 77 = .ok (.getfield 16, 3) := by decide +kernel
theorem dX1_loops_80 : decode cX1_loops 80 = .ok (.iload 4, 2) := by decide +kernel
theorem dX1_loops_82 : decode cX1_loops 82 = .ok (.iaload, 1) := by decide +kernel
theorem dX1_loops_83 : decode cX1_loops 83 = .ok (.if_icmp .ge 21, 3) := by decide +kernel
theorem dX1_loops_86 : decode cX1_loops 86 = .ok (.aload_n 0, 1) := by decide +kernel
theorem dX1_loops_87 : decode cX1_loops 87 = .ok (.iload 4, 2) := by decide +kernel
theorem dX1_loops_89 : decode cX1_loops 89 = .ok (.iload_n 2, 1) := by decide +kernel
theorem dX1_loops_90 : decode cX1_loops 90 = .ok (.bipush 16, 2) := by decide +kernel
theorem dX1_loops_92 : decode cX1_loops 92 = .ok (.irem, 1) := by decide +kernel
theorem dX1_loops_93 : decode cX1_loops 93 = .ok (.invokevirtual 79, 3) := by decide +kernel
theorem dX1_loops_96 : decode cX1_loops 96 = .ok (.iconst (-1), 1) := by decide +kernel
theorem dX1_loops_97 : decode cX1_loops 97 = .ok (.if_icmp .eq 7, 3) := by decide +kernel
theorem dX1_loops_100 : decode cX1_loops 100 = .ok (.iconst 1, 1) := by decide +kernel
theorem dX1_loops_101 : decode cX1_loops 101 = .ok (.goto 4, 3) := by decide +kernel
theorem dX1_loops_104 : decode cX1_loops 104 = .ok (.iconst 0, 1) := by decide +kernel
theorem dX1_loops_105 : decode cX1_loops 105 = .ok (.iadd, 1) := by decide +kernel
theorem dX1_loops_106 : decode cX1_loops 106 = .ok (.istore_n 1, 1) := by decide +kernel
theorem dX1_loops_107 : decode cX1_loops 107 = .ok (.iinc 3 1, 3) := by decide +kernel
theorem dX1_loops_110 : decode cX1_loops 110 = .ok (.goto (-70), 3) := by decide +kernel
theorem dX1_loops_113 : decode cX1_loops 113 = .ok (.iinc 2 1, 3) := by decide +kernel
theorem dX1_loops_116 : decode cX1_loops 116 = .ok (.goto (-100), 3) := by decide +kernel
theorem dX1_loops_119 : decode cX1_loops 119 = .ok (.iload_n 1, 1) := by decide +kernel
theorem dX1_loops_120 : decode cX1_loops 120 = .ok (.ireturn, 1) := by decide +kernel
set_option maxRecDepth 20000 in
theorem ggX1_changesAt_X1_isTagged : GoodIn wsX1_changesAt wsX1_isTagged := goodIn_r _ [8, 9, 10, 11, 12, 13, 14, 15, 16, 17, 18, 19, 20, 21, 22, 23, 24] (by decide +kernel) (by decide +kernel)
set_option maxRecDepth 20000 in
theorem gX1_changesAt_X1_isTagged : GoodIn wsX1_changesAt (wsV RX1 55 RX1 yX1_isTagged wsX1_isTagged) := goodIn_app (goodIn_of _ (by decide +kernel)) ggX1_changesAt_X1_isTagged
theorem dX1_changesAt_0 : decode cX1_changesAt 0 = .ok (.aload_n 0, 1) := by decide +kernel
theorem dX1_changesAt_1 : decode cX1_changesAt 1 = .ok (.getfield 16, 3) := by decide +kernel
theorem dX1_changesAt_4 : decode cX1_changesAt 4 = .ok (.iload_n 1, 1) := by decide +kernel
theorem dX1_changesAt_5 : decode cX1_changesAt 5 = .ok (.iaload, 1) := by decide +kernel
theorem dX1_changesAt_6 : decode cX1_changesAt 6 = .ok (.istore_n 3, 1) := by decide +kernel
theorem dX1_changesAt_7 : decode cX1_changesAt 7 = .ok (.aload_n 0, 1) := by decide +kernel
theorem dX1_changesAt_8 : decode cX1_changesAt 8 = .ok (.getfield 7, 3) := by decide +kernel
theorem dX1_changesAt_11 : decode cX1_changesAt 11 = .ok (.iload_n 1, 1) := by decide +kernel
theorem dX1_changesAt_12 : decode cX1_changesAt 12 = .ok (.iaload, 1) := by decide +kernel
theorem dX1_changesAt_13 : decode cX1_changesAt 13 = .ok (.iload_n 2, 1) := by decide +kernel
theorem dX1_changesAt_14 : decode cX1_changesAt 14 = .ok (.if_icmp .eq 13, 3) := by decide +kernel
theorem dX1_changesAt_17 : decode cX1_changesAt 17 = .ok (.aload_n 0, 1) := by decide +kernel
theorem dX1_changesAt_18 : decode cX1_changesAt 18 = .ok (.getfield 7, 3) := by decide +kernel
theorem dX1_changesAt_21 : decode cX1_changesAt 21 = .ok (.iload_n 3, 1) := by decide +kernel
theorem dX1_changesAt_22 : decode cX1_changesAt 22 = .ok (.iaload, 1) := by decide +kernel
theorem dX1_changesAt_23 : decode cX1_changesAt 23 = .ok (.iload_n 2, 1) := by decide +kernel
theorem dX1_changesAt_24 : decode cX1_changesAt 24 = .ok (.if_icmp .ne 25, 3) := by decide +kernel
theorem dX1_changesAt_27 : decode cX1_changesAt 27 = .ok (.aload_n 0, 1) := by decide +kernel
theorem dX1_changesAt_28 : decode cX1_changesAt 28 = .ok (.getfield 7, 3) := by decide +kernel
theorem dX1_changesAt_31 : decode cX1_changesAt 31 = .ok (.iload_n 1, 1) := by decide +kernel
theorem dX1_changesAt_32 : decode cX1_changesAt 32 = .ok (.iaload, 1) := by decide +kernel
theorem dX1_changesAt_33 : decode cX1_changesAt 33 = .ok (.aload_n 0, 1) := by decide +kernel
theorem dX1_changesAt_34 : decode cX1_changesAt 34 = .ok (.getfield 7, 3) := by decide +kernel
theorem dX1_changesAt_37 : decode cX1_changesAt 37 = .ok (.iload_n 3, 1) := by decide +kernel
theorem dX1_changesAt_38 : decode cX1_changesAt 38 = .ok (.iaload, 1) := by decide +kernel
theorem dX1_changesAt_39 : decode cX1_changesAt 39 = .ok (.if_icmp .ne 7, 3) := by decide +kernel
theorem dX1_changesAt_42 : decode cX1_changesAt 42 = .ok (.iconst 0, 1) := by decide +kernel
theorem dX1_changesAt_43 : decode cX1_changesAt 43 = .ok (.goto 5, 3) := by decide +kernel
theorem dX1_changesAt_46 : decode cX1_changesAt 46 = .ok (.ldc 71, 2) := by decide +kernel
theorem dX1_changesAt_48 : decode cX1_changesAt 48 = .ok (.ireturn, 1) := by decide +kernel
theorem dX1_changesAt_49 : decode cX1_changesAt 49 = .ok (.aload_n 0, 1) := by decide +kernel
theorem dX1_changesAt_50 : decode cX1_changesAt 50 = .ok (.iload_n 1, 1) := by decide +kernel
theorem dX1_changesAt_51 : decode cX1_changesAt 51 = .ok (.iload_n 2, 1) := by decide +kernel
theorem dX1_changesAt_52 : decode cX1_changesAt 52 = .ok (.invokevirtual 55, 3) := by decide +kernel
theorem dX1_changesAt_55 : decode cX1_changesAt 55 = .ok (.ifCond .eq 7, 3) := by decide +kernel
theorem dX1_changesAt_58 : decode cX1_changesAt 58 = .ok (.iconst 0, 1) := by decide +kernel
theorem dX1_changesAt_59 : decode cX1_changesAt 59 = .ok (.goto 4, 3) := by decide +kernel
theorem dX1_changesAt_62 : decode cX1_changesAt 62 = .ok (.iconst 1, 1) := by decide +kernel
theorem dX1_changesAt_63 : decode cX1_changesAt 63 = .ok (.aload_n 0, 1) := by decide +kernel
theorem dX1_changesAt_64 : decode cX1_changesAt 64 = .ok (.iload_n 3, 1) := by decide +kernel
theorem dX1_changesAt_65 : decode cX1_changesAt 65 = .ok (.iload_n 2, 1) := by decide +kernel
theorem dX1_changesAt_66 : decode cX1_changesAt 66 = .ok (.invokevirtual 55, 3) := by decide +kernel
theorem dX1_changesAt_69 : decode cX1_changesAt 69 = .ok (.ifCond .eq 7, 3) := by decide +kernel
theorem dX1_changesAt_72 : decode cX1_changesAt 72 = .ok (.iconst 0, 1) := by decide +kernel
theorem dX1_changesAt_73 : decode cX1_changesAt 73 = .ok (.goto 4, 3) := by decide +kernel
theorem dX1_changesAt_76 : decode cX1_changesAt 76 = .ok (.iconst 1, 1) := by decide +kernel
theorem dX1_changesAt_77 : decode cX1_changesAt 77 = .ok (.iadd, 1) := by decide +kernel
theorem dX1_changesAt_78 : decode cX1_changesAt 78 = .ok (.ireturn, 1) := by decide +kernel
set_option maxRecDepth 20000 in
theorem ggX1_changes_X1_isPort : GoodIn wsX1_changes wsX1_isPort := goodIn_r _ [9, 10, 11, 8, 12] (by decide +kernel) (by decide +kernel)
set_option maxRecDepth 20000 in
theorem gX1_changes_X1_isPort : GoodIn wsX1_changes (va_wsS RX1 51 yX1_isPort wsX1_isPort) := goodIn_app (goodIn_of _ (by decide +kernel)) ggX1_changes_X1_isPort
set_option maxRecDepth 20000 in
theorem ggX1_changes_X1_layTree : GoodIn wsX1_changes wsX1_layTree := goodIn_r _ [16, 17, 5, 18, 4, 19, 20, 35, 36, 37, 38, 39, 40, 41, 42, 43, 44, 45, 46, 47, 48, 49] (by decide +kernel) (by decide +kernel)
set_option maxRecDepth 20000 in
theorem gX1_changes_X1_layTree : GoodIn wsX1_changes (wsV RX1 72 RX1 yX1_layTree wsX1_layTree) := goodIn_app (goodIn_of _ (by decide +kernel)) ggX1_changes_X1_layTree
set_option maxRecDepth 20000 in
theorem ggX1_changes_X1_isLive : GoodIn wsX1_changes wsX1_isLive := goodIn_r _ [24, 5, 25, 20, 35, 36, 37, 38, 39, 40, 41, 42, 43, 44, 45, 46, 47, 48, 49] (by decide +kernel) (by decide +kernel)
set_option maxRecDepth 20000 in
theorem gX1_changes_X1_isLive : GoodIn wsX1_changes (wsV RX1 75 RX1 yX1_isLive wsX1_isLive) := goodIn_app (goodIn_of _ (by decide +kernel)) ggX1_changes_X1_isLive
set_option maxRecDepth 20000 in
theorem ggX1_changes_X1_changesAt : GoodIn wsX1_changes wsX1_changesAt := goodIn_r _ [29, 5, 2, 4, 30, 31, 32, 8, 33, 34, 35, 36, 37, 38, 39, 40, 41, 42, 43, 44, 45, 46, 47, 48, 49] (by decide +kernel) (by decide +kernel)
set_option maxRecDepth 20000 in
theorem gX1_changes_X1_changesAt : GoodIn wsX1_changes (wsV RX1 107 RX1 yX1_changesAt wsX1_changesAt) := goodIn_app (goodIn_of _ (by decide +kernel)) ggX1_changes_X1_changesAt
theorem dX1_changes_0 : decode cX1_changes 0 = .ok (.aload_n 0, 1) := by decide +kernel
theorem dX1_changes_1 : decode cX1_changes 1 = .ok (.iload_n 1, 1) := by decide +kernel
theorem dX1_changes_2 : decode cX1_changes 2 = .ok (.iload_n 2, 1) := by decide +kernel
theorem dX1_changes_3 : decode cX1_changes 3 = .ok (.invokestatic 51, 3) := by decide +kernel
theorem dX1_changes_6 : decode cX1_changes 6 = .ok (.ifCond .eq 16, 3) := by decide +kernel
theorem dX1_changes_9 : decode cX1_changes 9 = .ok (.iload_n 3, 1) := by decide +kernel
theorem dX1_changes_10 : decode cX1_changes 10 = .ok (.iload 4, 2) := by decide +kernel
theorem dX1_changes_12 : decode cX1_changes 12 = .ok (.invokestatic 51, 3) := by decide +kernel
theorem dX1_changes_15 : decode cX1_changes 15 = .ok (.ifCond .eq 7, 3) := by decide +kernel
theorem dX1_changes_18 : decode cX1_changes 18 = .ok (.iconst 0, 1) := by decide +kernel
theorem dX1_changes_19 : decode cX1_changes 19 = .ok (.goto 4, 3) := by decide +kernel
theorem dX1_changes_22 : decode cX1_changes 22 = .ok (.iconst 1, 1) := by decide +kernel
theorem dX1_changes_23 : decode cX1_changes 23 = .ok (.putfield 43, 3) := by decide +kernel
theorem dX1_changes_26 : decode cX1_changes 26 = .ok (.aload_n 0, 1) := by decide +kernel
theorem dX1_changes_27 : decode cX1_changes 27 = .ok (.getfield 43, 3) := by decide +kernel
theorem dX1_changes_30 : decode cX1_changes 30 = .ok (.ifCond .ne 17, 3) := by decide +kernel
theorem dX1_changes_33 : decode cX1_changes 33 = .ok (.aload_n 0, 1) := by decide +kernel
theorem dX1_changes_34 : decode cX1_changes 34 = .ok (.getfield 7, 3) := by decide +kernel
theorem dX1_changes_37 : decode cX1_changes 37 = .ok (.bipush 6, 2) := by decide +kernel
theorem dX1_changes_39 : decode cX1_changes 39 = .ok (.iload_n 1, 1) := by decide +kernel
theorem dX1_changes_40 : decode cX1_changes 40 = .ok (.imul, 1) := by decide +kernel
theorem dX1_changes_41 : decode cX1_changes 41 = .ok (.iload_n 2, 1) := by decide +kernel
theorem dX1_changes_42 : decode cX1_changes 42 = .ok (.iadd, 1) := by decide +kernel
theorem dX1_changes_43 : decode cX1_changes 43 = .ok (.iaload, 1) := by decide +kernel
theorem dX1_changes_44 : decode cX1_changes 44 = .ok (.goto 4, 3) := by decide +kernel
theorem dX1_changes_47 : decode cX1_changes 47 = .ok (.iconst 0, 1) := by decide +kernel
theorem dX1_changes_48 : decode cX1_changes 48 = .ok (.istore 5, 2) := by decide +kernel
theorem dX1_changes_50 : decode cX1_changes 50 = .ok (.aload_n 0, 1) := by decide +kernel
theorem dX1_changes_51 : decode cX1_changes 51 = .ok (.getfield 43, 3) := by decide +kernel
theorem dX1_changes_54 : decode cX1_changes 54 = .ok (.ifCond .le 5, 3) := by decide +kernel
theorem dX1_changes_57 : decode cX1_changes 57 = .ok (.iconst 0, 1) := by decide +kernel
theorem dX1_changes_58 : decode cX1_changes 58 = .ok (.ireturn, 1) := by decide +kernel
theorem dX1_changes_59 : decode cX1_changes 59 = .ok (.iload 5, 2) := by decide +kernel
theorem dX1_changes_61 : decode cX1_changes 61 = .ok (.ifCond .eq 20, 3) := by decide +kernel
theorem dX1_changes_64 : decode cX1_changes 64 = .ok (.aload_n 0, 1) := by decide +kernel
theorem dX1_changes_65 : decode cX1_changes 65 = .ok (.getfield 7, 3) := by decide +kernel
theorem dX1_changes_68 : decode cX1_changes 68 = .ok (.bipush 6, 2) := by decide +kernel
theorem dX1_changes_70 : decode cX1_changes 70 = .ok (.iload_n 3, 1) := by decide +kernel
theorem dX1_changes_71 : decode cX1_changes 71 = .ok (.imul, 1) := by decide +kernel
theorem dX1_changes_72 : decode cX1_changes 72 = .ok (.iload 4, 2) := by decide +kernel
theorem dX1_changes_74 : decode cX1_changes 74 = .ok (.iadd, 1) := by decide +kernel
theorem dX1_changes_75 : decode cX1_changes 75 = .ok (.iaload, 1) := by decide +kernel
theorem dX1_changes_76 : decode cX1_changes 76 = .ok (.iload 5, 2) := by decide +kernel
theorem dX1_changes_78 : decode cX1_changes 78 = .ok (.if_icmp .eq 5, 3) := by decide +kernel
theorem dX1_changes_81 : decode cX1_changes 81 = .ok (.iconst (-1), 1) := by decide +kernel
theorem dX1_changes_82 : decode cX1_changes 82 = .ok (.ireturn, 1) := by decide +kernel
theorem dX1_changes_83 : decode cX1_changes 83 = .ok (.aload_n 0, 1) := by decide +kernel
theorem dX1_changes_84 : decode cX1_changes 84 = .ok (.invokevirtual 72, 3) := by decide +kernel
theorem dX1_changes_87 : decode cX1_changes 87 = .ok (.iconst 0, 1) := by decide +kernel
theorem dX1_changes_88 : decode cX1_changes 88 = .ok (.istore 6, 2) := by decide +kernel
theorem dX1_changes_90 : decode cX1_changes 90 = .ok (.iload 6, 2) := by decide +kernel
theorem dX1_changes_92 : decode cX1_changes 92 = .ok (.bipush 6, 2) := by decide +kernel
theorem dX1_changes_94 : decode cX1_changes 94 = .ok (.if_icmp .ge 28, 3) := by decide +kernel
theorem dX1_changes_97 : decode cX1_changes 97 = .ok (.aload_n 0, 1) := by decide +kernel
theorem dX1_changes_98 : decode cX1_changes 98 = .ok (.getfield 40, 3) := by decide +kernel
theorem dX1_changes_101 : decode cX1_changes 101 = .ok (.iload 6, 2) := by decide +kernel
theorem dX1_changes_103 : decode cX1_changes 103 = .ok (.iload 6, 2) := by decide +kernel
theorem dX1_changes_105 : decode cX1_changes 105 = .ok (.iload_n 1, 1) := by decide +kernel
theorem dX1_changes_106 : decode cX1_changes 106 = .ok (.if_icmp .ne 7, 3) := by decide +kernel
theorem dX1_changes_109 : decode cX1_changes 109 = .ok (.iconst 0, 1) := by decide +kernel
theorem dX1_changes_110 : decode cX1_changes 110 = .ok (.goto 5, 3) := by decide +kernel
theorem dX1_changes_113 : decode cX1_changes 113 = .ok (.ldc 71, 2) := by decide +kernel
theorem dX1_changes_115 : decode cX1_changes 115 = .ok (.iastore, 1) := by decide +kernel
theorem dX1_changes_116 : decode cX1_changes 116 = .ok (.iinc 6 1, 3) := by decide +kernel
theorem dX1_changes_119 : decode cX1_changes 119 = .ok (.goto (-29), 3) := by decide +kernel
theorem dX1_changes_122 : decode cX1_changes 122 = .ok (.iconst 0, 1) := by decide +kernel
theorem dX1_changes_123 : decode cX1_changes 123 = .ok (.istore 6, 2) := by decide +kernel
theorem dX1_changes_125 : decode cX1_changes 125 = .ok (.iload 6, 2) := by decide +kernel
theorem dX1_changes_127 : decode cX1_changes 127 = .ok (.sipush 216, 3) := by decide +kernel
theorem dX1_changes_130 : decode cX1_changes 130 = .ok (.if_icmp .ge 96, 3) := by decide +kernel
theorem dX1_changes_133 : decode cX1_changes 133 = .ok (.iload 6, 2) := by decide +kernel
theorem dX1_changes_135 : decode cX1_changes 135 = .ok (.bipush 36, 2) := by decide +kernel
theorem dX1_changes_137 : decode cX1_changes 137 = .ok (.irem, 1) := by decide +kernel
theorem dX1_changes_138 : decode cX1_changes 138 = .ok (.istore 7, 2) := by decide +kernel
theorem dX1_changes_140 : decode cX1_changes 140 = .ok (.aload_n 0, 1) := by decide +kernel
theorem dX1_changes_141 : decode cX1_changes 141 = .ok (.iload 7, 2) := by decide +kernel
theorem dX1_changes_143 : decode cX1_changes 143 = .ok (.invokevirtual 75, 3) := by decide +kernel
theorem dX1_changes_146 : decode cX1_changes 146 = .ok (.ifCond .eq 30, 3) := by decide +kernel
theorem dX1_changes_149 : decode cX1_changes 149 = .ok (.aload_n 0, 1) := by decide +kernel
theorem dX1_changes_150 : decode cX1_changes 150 = .ok (.getfield 40, 3) := by decide +kernel
theorem dX1_changes_153 : decode cX1_changes 153 = .ok (.aload_n 0, 1) := by decide +kernel
theorem dX1_changes_154 : decode cX1_changes 154 = .ok (.getfield 16, 3) := by decide +kernel
theorem dX1_changes_157 : decode cX1_changes 157 = .ok (.iload 7, 2) := by decide +kernel
theorem dX1_changes_159 : decode cX1_changes 159 = .ok (.iaload, 1) := by decide +kernel
theorem dX1_changes_160 : decode cX1_changes 160 = .ok (.bipush 6, 2) := by decide +kernel
theorem dX1_changes_162 : decode cX1_changes 162 = .ok (.idiv, 1) := by decide +kernel
theorem dX1_changes_163 : decode cX1_changes 163 = .ok (.iaload, 1) := by decide +kernel
theorem dX1_changes_164 : decode cX1_changes 164 = .ok (.aload_n 0, 1) := by decide +kernel
theorem dX1_changes_165 : decode cX1_changes 165 = .ok (.iload 7, 2) := by decide +kernel
theorem dX1_changes_167 : decode cX1_changes 167 = .ok (.iload 5, 2) := by decide +kernel
theorem dX1_changes_169 : decode cX1_changes 169 = .ok (.invokevirtual 107, 3) := by decide +kernel
theorem dX1_changes_172 : decode cX1_changes 172 = .ok (.iadd, 1) := by decide +kernel
theorem dX1_changes_173 : decode cX1_changes 173 = .ok (.goto 5, 3) := by decide +kernel
theorem dX1_changes_176 : decode cX1_changes 176 = .ok (.ldc 71, 2) := by decide +kernel
theorem dX1_changes_178 : decode cX1_changes 178 = .ok (.istore 8, 2) := by decide +kernel
theorem dX1_changes_180 : decode cX1_changes 180 = .ok (.aload_n 0, 1) := by decide +kernel
theorem dX1_changes_181 : decode cX1_changes 181 = .ok (.getfield 40, 3) := by decide +kernel
theorem dX1_changes_184 : decode cX1_changes 184 = .ok (.iload 7, 2) := by decide +kernel
theorem dX1_changes_186 : decode cX1_changes 186 = .ok (.bipush 6, 2) := by decide +kernel
theorem dX1_changes_188 : decode cX1_changes 188 = .ok (.idiv, 1) := by decide +kernel
theorem dX1_changes_189 : decode cX1_changes 189 = .ok (.iload 8, 2) := by decide +kernel
theorem dX1_changes_191 : decode cX1_changes 191 = .ok (.aload_n 0, 1) := by decide +kernel
theorem dX1_changes_192 : decode cX1_changes 192 = .ok (.getfield 40, 3) := by decide +kernel
theorem dX1_changes_195 : decode cX1_changes 195 = .ok (.iload 7, 2) := by decide +kernel
theorem dX1_changes_197 : decode cX1_changes 197 = .ok (.bipush 6, 2) := by decide +kernel
theorem dX1_changes_199 : decode cX1_changes 199 = .ok (.idiv, 1) := by decide +kernel
theorem dX1_changes_200 : decode cX1_changes 200 = .ok (.iaload, 1) := by decide +kernel
theorem dX1_changes_201 : decode cX1_changes 201 = .ok (.if_icmp .ge 8, 3) := by decide +kernel
theorem dX1_changes_204 : decode cX1_changes 204 = .ok (.iload 8, 2) := by decide +kernel
theorem dX1_changes_206 : decode cX1_changes 206 = .ok (.goto 13, 3) := by decide +kernel
theorem dX1_changes_209 : decode cX1_changes 209 = .ok (.aload_n 0, 1) := by decide +kernel
theorem dX1_changes_210 : decode cX1_changes 210 = .ok (.getfield 40, 3) := by decide +kernel
theorem dX1_changes_213 : decode cX1_changes 213 = .ok (.iload 7, 2) := by decide +kernel
theorem dX1_changes_215 : decode cX1_changes 215 = .ok (.bipush 6, 2) := by decide +kernel
theorem dX1_changes_217 : decode cX1_changes 217 = .ok (.idiv, 1) := by decide +kernel
theorem dX1_changes_218 : decode cX1_changes 218 = .ok (.iaload, 1) := by decide +kernel
theorem dX1_changes_219 : decode cX1_changes 219 = .ok (.iastore, 1) := by decide +kernel
theorem dX1_changes_220 : decode cX1_changes 220 = .ok (.iinc 6 1, 3) := by decide +kernel
theorem dX1_changes_223 : decode cX1_changes 223 = .ok (.goto (-98), 3) := by decide +kernel
theorem dX1_changes_226 : decode cX1_changes 226 = .ok (.aload_n 0, 1) := by decide +kernel
theorem dX1_changes_227 : decode cX1_changes 227 = .ok (.getfield 40, 3) := by decide +kernel
theorem dX1_changes_230 : decode cX1_changes 230 = .ok (.iload_n 3, 1) := by decide +kernel
theorem dX1_changes_231 : decode cX1_changes 231 = .ok (.iaload, 1) := by decide +kernel
theorem dX1_changes_232 : decode cX1_changes 232 = .ok (.ldc 71, 2) := by decide +kernel
theorem dX1_changes_234 : decode cX1_changes 234 = .ok (.if_icmp .ne 7, 3) := by decide +kernel
theorem dX1_changes_237 : decode cX1_changes 237 = .ok (.iconst (-1), 1) := by decide +kernel
theorem dX1_changes_238 : decode cX1_changes 238 = .ok (.goto 9, 3) := by decide +kernel
theorem dX1_changes_241 : decode cX1_changes 241 = .ok (.aload_n 0, 1) := by decide +kernel
theorem dX1_changes_242 : decode cX1_changes 242 = .ok (.getfield 40, 3) := by decide +kernel
theorem dX1_changes_245 : decode cX1_changes 245 = .ok (.iload_n 3, 1) := by decide +kernel
theorem dX1_changes_246 : decode cX1_changes 246 = .ok (.iaload, 1) := by decide +kernel
theorem dX1_changes_247 : decode cX1_changes 247 = .ok (.ireturn, 1) := by decide +kernel
