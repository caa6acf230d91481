theorem dL_hops_39 : decode cL_hops 39 = .ok (.aload_n 0, 1) := by decide +kernel
theorem dL_hops_40 : decode cL_hops 40 = .ok (.aload_n 1, 1) := by decide +kernel
theorem dL_hops_41 : decode cL_hops 41 = .ok (.aload_n 2, 1) := by decide +kernel
theorem dL_hops_42 : decode cL_hops 42 = .ok (.lload_n 3, 1) := by decide +kernel
theorem dL_hops_43 : decode cL_hops 43 = .ok (.iload 5, 2) := by decide +kernel
theorem dL_hops_45 : decode cL_hops 45 = .ok (.iload 6, 2) := by decide +kernel
theorem dL_hops_47 : decode cL_hops 47 = .ok (.iconst 0, 1) := by decide +kernel
theorem dL_hops_48 : decode cL_hops 48 = .ok (.aload 9, 2) := by decide +kernel
theorem dL_hops_50 : decode cL_hops 50 = .ok (.invokestatic 29, 3) := by decide +kernel
theorem dL_hops_53 : decode cL_hops 53 = .ok (.aload 9, 2) := by decide +kernel
theorem dL_hops_55 : decode cL_hops 55 = .ok (.iload 7, 2) := by decide +kernel
theorem dL_hops_57 : decode cL_hops 57 = .ok (.iaload, 1) := by decide +kernel
theorem dL_hops_58 : decode cL_hops 58 = .ok (.iload 8, 2) := by decide +kernel
theorem dL_hops_60 : decode cL_hops 60 = .ok (.ishr, 1) := by decide +kernel
theorem dL_hops_61 : decode cL_hops 61 = .ok (.iconst 1, 1) := by decide +kernel
theorem dL_hops_62 : decode cL_hops 62 = .ok (.iand, 1) := by decide +kernel
theorem dL_hops_63 : decode cL_hops 63 = .ok (.ifCond .ne 24, 3) := by decide +kernel
theorem dL_hops_66 : decode cL_hops 66 = .ok (.iinc 10 1, 3) := by decide +kernel
theorem dL_hops_69 : decode cL_hops 69 = .ok (.aload_n 0, 1) := by decide +kernel
theorem dL_hops_70 : decode cL_hops 70 = .ok (.aload_n 1, 1) := by decide +kernel
theorem dL_hops_71 : decode cL_hops 71 = .ok (.aload_n 2, 1) := by decide +kernel
theorem dL_hops_72 : decode cL_hops 72 = .ok (.lload_n 3, 1) := by decide +kernel
theorem dL_hops_73 : decode cL_hops 73 = .ok (.iload 5, 2) := by decide +kernel
theorem dL_hops_75 : decode cL_hops 75 = .ok (.iload 6, 2) := by decide +kernel
theorem dL_hops_77 : decode cL_hops 77 = .ok (.iload 10, 2) := by decide +kernel
theorem dL_hops_79 : decode cL_hops 79 = .ok (.aload 9, 2) := by decide +kernel
theorem dL_hops_81 : decode cL_hops 81 = .ok (.invokestatic 29, 3) := by decide +kernel
theorem dL_hops_84 : decode cL_hops 84 = .ok (.goto (-31), 3) := by decide +kernel
theorem dL_hops_87 : decode cL_hops 87 = .ok (.iload 10, 2) := by decide +kernel
theorem dL_hops_89 : decode cL_hops 89 = .ok (.ireturn, 1) := by decide +kernel
theorem dL_used_0 : decode cL_used 0 = .ok (.iconst 0, 1) := by decide +kernel
theorem dL_used_1 : decode cL_used 1 = .ok (.istore_n 3, 1) := by decide +kernel
theorem dL_used_2 : decode cL_used 2 = .ok (.bipush 6, 2) := by decide +kernel
theorem dL_used_4 : decode cL_used 4 = .ok (.iload_n 2, 1) := by decide +kernel
theorem dL_used_5 : decode cL_used 5 = .ok (.imul, 1) := by decide +kernel
theorem dL_used_6 : decode cL_used 6 = .ok (.istore 4, 2) := by decide +kernel
theorem dL_used_8 : decode cL_used 8 = .ok (.iload 4, 2) := by decide +kernel
theorem dL_used_10 : decode cL_used 10 = .ok (.bipush 6, 2) := by decide +kernel
theorem dL_used_12 : decode cL_used 12 = .ok (.iload_n 2, 1) := by decide +kernel
theorem dL_used_13 : decode cL_used 13 = .ok (.imul, 1) := by decide +kernel
theorem dL_used_14 : decode cL_used 14 = .ok (.bipush 6, 2) := by decide +kernel
theorem dL_used_16 : decode cL_used 16 = .ok (.iadd, 1) := by decide +kernel
theorem dL_used_17 : decode cL_used 17 = .ok (.if_icmp .ge 34, 3) := by decide +kernel
theorem dL_used_20 : decode cL_used 20 = .ok (.iload_n 3, 1) := by decide +kernel
theorem dL_used_21 : decode cL_used 21 = .ok (.aload_n 1, 1) := by decide +kernel
theorem dL_used_22 : decode cL_used 22 = .ok (.iload 4, 2) := by decide +kernel
theorem dL_used_24 : decode cL_used 24 = .ok (.iaload, 1) := by decide +kernel
theorem dL_used_25 : decode cL_used 25 = .ok (.aload_n 0, 1) := by decide +kernel
theorem dL_used_26 : decode cL_used 26 = .ok (.iload 4, 2) := by decide +kernel
theorem dL_used_28 : decode cL_used 28 = .ok (.iaload, 1) := by decide +kernel
theorem dL_used_29 : decode cL_used 29 = .ok (.ifCond .le 12, 3) := by decide +kernel
theorem dL_used_32 : decode cL_used 32 = .ok (.iconst 1, 1) := by decide +kernel
theorem dL_used_33 : decode cL_used 33 = .ok (.aload_n 0, 1) := by decide +kernel
theorem dL_used_34 : decode cL_used 34 = .ok (.iload 4, 2) := by decide +kernel
theorem dL_used_36 : decode cL_used 36 = .ok (.iaload, 1) := by decide +kernel
theorem dL_used_37 : decode cL_used 37 = .ok (.ishl, 1) := by decide +kernel
theorem dL_used_38 : decode cL_used 38 = .ok (.goto 4, 3) := by decide +kernel
theorem dL_used_41 : decode cL_used 41 = .ok (.iconst 0, 1) := by decide +kernel
theorem dL_used_42 : decode cL_used 42 = .ok (.ior, 1) := by decide +kernel
theorem dL_used_43 : decode cL_used 43 = .ok (.ior, 1) := by decide +kernel
theorem dL_used_44 : decode cL_used 44 = .ok (.istore_n 3, 1) := by decide +kernel
theorem dL_used_45 : decode cL_used 45 = .ok (.iinc 4 1, 3) := by decide +kernel
theorem dL_used_48 : decode cL_used 48 = .ok (.goto (-40), 3) := by decide +kernel
theorem dL_used_51 : decode cL_used 51 = .ok (.iload_n 3, 1) := by decide +kernel
theorem dL_used_52 : decode cL_used 52 = .ok (.ireturn, 1) := by decide +kernel
theorem dL_islands_0 : decode cL_islands 0 = .ok (.bipush 6, 2) := by decide +kernel
theorem dL_islands_2 : decode cL_islands 2 = .ok (.newarray .int, 2) := by decide +kernel
theorem dL_islands_4 : decode cL_islands 4 = .ok (.astore 5, 2) := by decide +kernel
theorem dL_islands_6 : decode cL_islands 6 = .ok (.bipush 6, 2) := by decide +kernel
theorem dL_islands_8 : decode cL_islands 8 = .ok (.newarray .int, 2) := by decide +kernel
theorem dL_islands_10 : decode cL_islands 10 = .ok (.astore 6, 2) := by decide +kernel
theorem dL_islands_12 : decode cL_islands 12 = .ok (.iconst 0, 1) := by decide +kernel
theorem dL_islands_13 : decode cL_islands 13 = .ok (.istore 7, 2) := by decide +kernel
theorem dL_islands_15 : decode cL_islands 15 = .ok (.iconst 0, 1) := by decide +kernel
theorem dL_islands_16 : decode cL_islands 16 = .ok (.istore 8, 2) := by decide +kernel
theorem dL_islands_18 : decode cL_islands 18 = .ok (.iload 8, 2) := by decide +kernel
theorem dL_islands_20 : decode cL_islands 20 = .ok (.bipush 6, 2) := by decide +kernel
theorem dL_islands_22 : decode cL_islands 22 = .ok (.if_icmp .ge 21, 3) := by decide +kernel
theorem dL_islands_25 : decode cL_islands 25 = .ok (.aload 5, 2) := by decide +kernel
theorem dL_islands_27 : decode cL_islands 27 = .ok (.iload 8, 2) := by decide +kernel
theorem dL_islands_29 : decode cL_islands 29 = .ok (.aload_n 0, 1) := by decide +kernel
theorem dL_islands_30 : decode cL_islands 30 = .ok (.aload_n 1, 1) := by decide +kernel
theorem dL_islands_31 : decode cL_islands 31 = .ok (.iload 8, 2) := by decide +kernel
theorem dL_islands_33 : decode cL_islands 33 = .ok (.invokestatic 33, 3) := by decide +kernel
theorem dL_islands_36 : decode cL_islands 36 = .ok (.iastore, 1) := by decide +kernel
theorem dL_islands_37 : decode cL_islands 37 = .ok (.iinc 8 1, 3) := by decide +kernel
theorem dL_islands_40 : decode cL_islands 40 = .ok (.goto (-22), 3) := by decide +kernel
theorem dL_islands_43 : decode cL_islands 43 = .ok (.iconst 0, 1) := by decide +kernel
theorem dL_islands_44 : decode cL_islands 44 = .ok (.istore 8, 2) := by decide +kernel
theorem dL_islands_46 : decode cL_islands 46 = .ok (.iload 8, 2) := by decide +kernel
theorem dL_islands_48 : decode cL_islands 48 = .ok (.bipush 96, 2) := by decide +kernel
theorem dL_islands_50 : decode cL_islands 50 = .ok (.if_icmp .ge 84, 3) := by decide +kernel
theorem dL_islands_53 : decode cL_islands 53 = .ok (.aload 5, 2) := by decide +kernel
theorem dL_islands_55 : decode cL_islands 55 = .ok (.iload 8, 2) := by decide +kernel
theorem dL_islands_57 : decode cL_islands 57 = .ok (.bipush 16, 2) := by decide +kernel
theorem dL_islands_59 : decode cL_islands 59 = .ok (.idiv, 1) := by decide +kernel
theorem dL_islands_60 : decode cL_islands 60 = .ok (.iaload, 1) := by decide +kernel
theorem dL_islands_61 : decode cL_islands 61 = .ok (.iload 8, 2) := by decide +kernel
theorem dL_islands_63 : decode cL_islands 63 = .ok (.bipush 16, 2) := by decide +kernel
theorem dL_islands_65 : decode cL_islands 65 = .ok (.irem, 1) := by decide +kernel
theorem dL_islands_66 : decode cL_islands 66 = .ok (.ishr, 1) := by decide +kernel
theorem dL_islands_67 : decode cL_islands 67 = .ok (.iconst 1, 1) := by decide +kernel
theorem dL_islands_68 : decode cL_islands 68 = .ok (.iand, 1) := by decide +kernel
theorem dL_islands_69 : decode cL_islands 69 = .ok (.iconst 1, 1) := by decide +kernel
theorem dL_islands_70 : decode cL_islands 70 = .ok (.if_icmp .ne 58, 3) := by decide +kernel
theorem dL_islands_73 : decode cL_islands 73 = .ok (.iinc 7 1, 3) := by decide +kernel
theorem dL_islands_76 : decode cL_islands 76 = .ok (.aload_n 0, 1) := by decide +kernel
theorem dL_islands_77 : decode cL_islands 77 = .ok (.aload_n 1, 1) := by decide +kernel
theorem dL_islands_78 : decode cL_islands 78 = .ok (.aload_n 2, 1) := by decide +kernel
theorem dL_islands_79 : decode cL_islands 79 = .ok (.lload_n 3, 1) := by decide +kernel
theorem dL_islands_80 : decode cL_islands 80 = .ok (.iload 8, 2) := by decide +kernel
theorem dL_islands_82 : decode cL_islands 82 = .ok (.bipush 16, 2) := by decide +kernel
theorem dL_islands_84 : decode cL_islands 84 = .ok (.idiv, 1) := by decide +kernel
theorem dL_islands_85 : decode cL_islands 85 = .ok (.iload 8, 2) := by decide +kernel
theorem dL_islands_87 : decode cL_islands 87 = .ok (.bipush 16, 2) := by decide +kernel
theorem dL_islands_89 : decode cL_islands 89 = .ok (.irem, 1) := by decide +kernel
theorem dL_islands_90 : decode cL_islands 90 = .ok (.bipush 90, 2) := by decide +kernel
theorem dL_islands_92 : decode cL_islands 92 = .ok (.aload 6, 2) := by decide +kernel
theorem dL_islands_94 : decode cL_islands 94 = .ok (.invokestatic 29, 3) := by decide +kernel
theorem dL_islands_97 : decode cL_islands 97 = .ok (.iconst 0, 1) := by decide +kernel
theorem dL_islands_98 : decode cL_islands 98 = .ok (.istore 9, 2) := by decide +kernel
theorem dL_islands_100 : decode cL_islands 100 = .ok (.iload 9, 2) := by decide +kernel
theorem dL_islands_102 : decode cL_islands 102 = .ok (.bipush 6, 2) := by decide +kernel
theorem dL_islands_104 : decode cL_islands 104 = .ok (.if_icmp .ge 24, 3) := by decide +kernel
theorem dL_islands_107 : decode cL_islands 107 = .ok (.aload 5, 2) := by decide +kernel
theorem dL_islands_109 : decode cL_islands 109 = .ok (.iload 9, 2) := by decide +kernel
theorem dL_islands_111 : decode cL_islands 111 = .ok (.dup2, 1) := by decide +kernel
theorem dL_islands_112 : decode cL_islands 112 = .ok (.iaload, 1) := by decide +kernel
theorem dL_islands_113 : decode cL_islands 113 = .ok (.aload 6, 2) := by decide +kernel
theorem dL_islands_115 : decode cL_islands 115 = .ok (.iload 9, 2) := by decide +kernel
theorem dL_islands_117 : decode cL_islands 117 = .ok (.iaload, 1) := by decide +kernel
theorem dL_islands_118 : decode cL_islands 118 = .ok (.iconst (-1), 1) := by decide +kernel
theorem dL_islands_119 : decode cL_islands 119 = .ok (.ixor, 1) := by decide +kernel
theorem dL_islands_120 : decode cL_islands 120 = .ok (.iand, 1) := by decide +kernel
theorem dL_islands_121 : decode cL_islands 121 = .ok (.iastore, 1) := by decide +kernel
theorem dL_islands_122 : decode cL_islands 122 = .ok (.iinc 9 1, 3) := by decide +kernel
theorem dL_islands_125 : decode cL_islands 125 = .ok (.goto (-25), 3) := by decide +kernel
theorem dL_islands_128 : decode cL_islands 128 = .ok (.iinc 8 1, 3) := by decide +kernel
theorem dL_islands_131 : decode cL_islands 131 = .ok (.goto (-85), 3) := by decide +kernel
theorem dL_islands_134 : decode cL_islands 134 = .ok (.iload 7, 2) := by decide +kernel
theorem dL_islands_136 : decode cL_islands 136 = .ok (.ireturn, 1) := by decide +kernel
theorem dL_loops_0 : decode cL_loops 0 = .ok (.iconst 0, 1) := by decide +kernel
theorem dL_loops_1 : decode cL_loops 1 = .ok (.istore 5, 2) := by decide +kernel
theorem dL_loops_3 : decode cL_loops 3 = .ok (.iconst 0, 1) := by decide +kernel
theorem dL_loops_4 : decode cL_loops 4 = .ok (.istore 6, 2) := by decide +kernel
theorem dL_loops_6 : decode cL_loops 6 = .ok (.iconst 0, 1) := by decide +kernel
theorem dL_loops_7 : decode cL_loops 7 = .ok (.istore 7, 2) := by decide +kernel
theorem dL_loops_9 : decode cL_loops 9 = .ok (.iload 7, 2) := by decide +kernel
theorem dL_loops_11 : decode cL_loops 11 = .ok (.bipush 36, 2) := by decide +kernel
theorem dL_loops_13 : decode cL_loops 13 = .ok (.if_icmp .ge 95, 3) := by decide +kernel
theorem dL_loops_16 : decode cL_loops 16 = .ok (.lload_n 3, 1) := by decide +kernel
theorem dL_loops_17 : decode cL_loops 17 = .ok (.iload 7, 2) := by decide +kernel
theorem dL_loops_19 : decode cL_loops 19 = .ok (.lshr, 1) := by decide +kernel
theorem dL_loops_20 : decode cL_loops 20 = .ok (.lconst 1, 1) := by decide +kernel
theorem dL_loops_21 : decode cL_loops 21 = .ok (.land, 1) := by decide +kernel
theorem dL_loops_22 : decode cL_loops 22 = .ok (.lconst 1, 1) := by decide +kernel
theorem dL_loops_23 : decode cL_loops 23 = .ok (.lcmp, 1) := by decide +kernel
theorem dL_loops_24 : decode cL_loops 24 = .ok (.ifCond .ne 48, 3) := by decide +kernel
theorem dL_loops_27 : decode cL_loops 27 = .ok (.aload_n 2, 1) := by decide +kernel
theorem dL_loops_28 : decode cL_loops 28 = .ok (.iload 7, 2) := by decide +kernel
theorem dL_loops_30 : decode cL_loops 30 = .ok (.iaload, 1) := by decide +kernel
theorem dL_loops_31 : decode cL_loops 31 = .ok (.iconst 1, 1) := by decide +kernel
theorem dL_loops_32 : decode cL_loops 32 = .ok (.isub, 1) := by decide +kernel
theorem dL_loops_33 : decode cL_loops 33 = .ok (.istore 8, 2) := by decide +kernel
theorem dL_loops_35 : decode cL_loops 35 = .ok (.iload 5, 2) := by decide +kernel
theorem dL_loops_37 : decode cL_loops 37 = .ok (.aload_n 1, 1) := by decide +kernel
theorem dL_loops_38 : decode cL_loops 38 = .ok (.iload 7, 2) := by decide +kernel
theorem dL_loops_40 : decode cL_loops 40 = .ok (.iaload, 1) := by decide +kernel
theorem dL_loops_41 : decode cL_loops 41 = .ok (.aload_n 1, 1) := by decide +kernel
theorem dL_loops_42 : decode cL_loops 42 = .ok (.iload 8, 2) := by decide +kernel
theorem dL_loops_44 : decode cL_loops 44 = .ok (.iaload, 1) := by decide +kernel
theorem dL_loops_45 : decode cL_loops 45 = .ok (.iand, 1) := by decide +kernel
theorem dL_loops_46 : decode cL_loops 46 = .ok (.invokestatic 37, 3) := by decide +kernel
theorem dL_loops_49 : decode cL_loops 49 = .ok (.aload_n 0, 1) := by decide +kernel
theorem dL_loops_50 : decode cL_loops 50 = .ok (.iload 7, 2) := by decide +kernel
theorem dL_loops_52 : decode cL_loops 52 = .ok (.iaload, 1) := by decide +kernel
theorem dL_loops_53 : decode cL_loops 53 = .ok (.ifCond .le 14, 3) := by decide +kernel
theorem dL_loops_56 : decode cL_loops 56 = .ok (.aload_n 0, 1) := by decide +kernel
theorem dL_loops_57 : decode cL_loops 57 = .ok (.iload 8, 2) := by decide +kernel
theorem dL_loops_59 : decode cL_loops 59 = .ok (.iaload, 1) := by decide +kernel
theorem dL_loops_60 : decode cL_loops 60 = .ok (.ifCond .le 7, 3) := by decide +kernel
theorem dL_loops_63 : decode cL_loops 63 = .ok (.iconst 1, 1) := by decide +kernel
theorem dL_loops_64 : decode cL_loops 64 = .ok (.goto 4, 3) := by decide +kernel
theorem dL_loops_67 : decode cL_loops 67 = .ok (.iconst 0, 1) := by decide +kernel
theorem dL_loops_68 : decode cL_loops 68 = .ok (.iadd, 1) := by decide +kernel
theorem dL_loops_69 : decode cL_loops 69 = .ok (.iadd, 1) := by decide +kernel
theorem dL_loops_70 : decode cL_loops 70 = .ok (.istore 5, 2) := by decide +kernel
theorem dL_loops_72 : decode cL_loops 72 = .ok (.iload 6, 2) := by decide +kernel
theorem dL_loops_74 : decode cL_loops 74 = .ok (.iload 7, 2) := by decide +kernel
theorem dL_loops_76 : decode cL_loops 76 = .ok (.bipush 6, 2) := by decide +kernel
theorem dL_loops_78 : decode cL_loops 78 = .ok (.irem, 1) := by decide +kernel
theorem dL_loops_79 : decode cL_loops 79 = .ok (.ifCond .ne 19, 3) := by decide +kernel
theorem dL_loops_82 : decode cL_loops 82 = .ok (.aload_n 0, 1) := by decide +kernel
theorem dL_loops_83 : decode cL_loops 83 = .ok (.aload_n 1, 1) := by decide +kernel
theorem dL_loops_84 : decode cL_loops 84 = .ok (.iload 7, 2) := by decide +kernel
theorem dL_loops_86 : decode cL_loops 86 = .ok (.bipush 6, 2) := by decide +kernel
theorem dL_loops_88 : decode cL_loops 88 = .ok (.idiv, 1) := by decide +kernel
theorem dL_loops_89 : decode cL_loops 89 = .ok (.invokestatic 33, 3) := by decide +kernel
theorem dL_loops_92 : decode cL_loops 92 = .ok (.invokestatic 37, 3) := by decide +kernel
theorem dL_loops_95 : decode cL_loops 95 = .ok (.goto 4, 3) := by decide +kernel
theorem dL_loops_98 : decode cL_loops 98 = .ok (.iconst 0, 1) := by decide +kernel
theorem dL_loops_99 : decode cL_loops 99 = .ok (.iadd, 1) := by decide +kernel
theorem dL_loops_100 : decode cL_loops 100 = .ok (.istore 6, 2) := by decide +kernel
theorem dL_loops_102 : decode cL_loops 102 = .ok (.iinc 7 1, 3) := by decide +kernel
theorem dL_loops_105 : decode cL_loops 105 = .ok (.goto (-96), 3) := by decide +kernel
theorem dL_loops_108 : decode cL_loops 108 = .ok (.iload 5, 2) := by decide +kernel
theorem dL_loops_110 : decode cL_loops 110 = .ok (.iconst 2, 1) := by decide +kernel
theorem dL_loops_111 : decode cL_loops 111 = .ok (.idiv, 1) := by decide +kernel
theorem dL_loops_112 : decode cL_loops 112 = .ok (.iload 6, 2) := by decide +kernel
theorem dL_loops_114 : decode cL_loops 114 = .ok (.isub, 1) := by decide +kernel
theorem dL_loops_115 : decode cL_loops 115 = .ok (.aload_n 0, 1) := by decide +kernel
theorem dL_loops_116 : decode cL_loops 116 = .ok (.aload_n 1, 1) := by decide +kernel
theorem dL_loops_117 : decode cL_loops 117 = .ok (.aload_n 2, 1) := by decide +kernel
theorem dL_loops_118 : decode cL_loops 118 = .ok (.lload_n 3, 1) := by decide +kernel
theorem dL_loops_119 : decode cL_loops 119 = .ok (.invokestatic 41, 3) := by decide +kernel
theorem dL_loops_122 : decode cL_loops 122 = .ok (.iadd, 1) := by decide +kernel
theorem dL_loops_123 : decode cL_loops 123 = .ok (.ireturn, 1) := by decide +kernel
theorem dL_changes_0 : decode cL_changes 0 = .ok (.aload_n 0, 1) := by decide +kernel
theorem dL_changes_1 : decode cL_changes 1 = .ok (.iload 5, 2) := by decide +kernel
theorem dL_changes_3 : decode cL_changes 3 = .ok (.iaload, 1) := by decide +kernel
theorem dL_changes_4 : decode cL_changes 4 = .ok (.istore 7, 2) := by decide +kernel
theorem dL_changes_6 : decode cL_changes 6 = .ok (.iload 7, 2) := by decide +kernel
theorem dL_changes_8 : decode cL_changes 8 = .ok (.ifCond .eq 12, 3) := by decide +kernel
theorem dL_changes_11 : decode cL_changes 11 = .ok (.aload_n 0, 1) := by decide +kernel
theorem dL_changes_12 : decode cL_changes 12 = .ok (.iload 6, 2) := by decide +kernel
theorem dL_changes_14 : decode cL_changes 14 = .ok (.iaload, 1) := by decide +kernel
theorem dL_changes_15 : decode cL_changes 15 = .ok (.iload 7, 2) := by decide +kernel
theorem dL_changes_17 : decode cL_changes 17 = .ok (.if_icmp .eq 5, 3) := by decide +kernel
theorem dL_changes_20 : decode cL_changes 20 = .ok (.iconst (-1), 1) := by decide +kernel
theorem dL_changes_21 : decode cL_changes 21 = .ok (.ireturn, 1) := by decide +kernel
theorem dL_changes_22 : decode cL_changes 22 = .ok (.bipush 36, 2) := by decide +kernel
theorem dL_changes_24 : decode cL_changes 24 = .ok (.newarray .int, 2) := by decide +kernel
theorem dL_changes_26 : decode cL_changes 26 = .ok (.astore 8, 2) := by decide +kernel
theorem dL_changes_28 : decode cL_changes 28 = .ok (.iconst 0, 1) := by decide +kernel
theorem dL_changes_29 : decode cL_changes 29 = .ok (.istore 9, 2) := by decide +kernel
theorem dL_changes_31 : decode cL_changes 31 = .ok (.iload 9, 2) := by decide +kernel
theorem dL_changes_33 : decode cL_changes 33 = .ok (.bipush 36, 2) := by decide +kernel
theorem dL_changes_35 : decode cL_changes 35 = .ok (.if_icmp .ge 29, 3) := by decide +kernel
theorem dL_changes_38 : decode cL_changes 38 = .ok (.aload 8, 2) := by decide +kernel
theorem dL_changes_40 : decode cL_changes 40 = .ok (.iload 9, 2) := by decide +kernel
theorem dL_changes_42 : decode cL_changes 42 = .ok (.iload 9, 2) := by decide +kernel
theorem dL_changes_44 : decode cL_changes 44 = .ok (.bipush 7, 2) := by decide +kernel
theorem dL_changes_46 : decode cL_changes 46 = .ok (.irem, 1) := by decide +kernel
theorem dL_changes_47 : decode cL_changes 47 = .ok (.ifCond .ne 7, 3) := by decide +kernel
theorem dL_changes_50 : decode cL_changes 50 = .ok (.iconst 0, 1) := by decide +kernel
theorem dL_changes_51 : decode cL_changes 51 = .ok (.goto 6, 3) := by decide +kernel
theorem dL_changes_54 : decode cL_changes 54 = .ok (.sipush 9999, 3) := by decide +kernel
theorem dL_changes_57 : decode cL_changes 57 = .ok (.iastore, 1) := by decide +kernel
theorem dL_changes_58 : decode cL_changes 58 = .ok (.iinc 9 1, 3) := by decide +kernel
theorem dL_changes_61 : decode cL_changes 61 = .ok (.goto (-30), 3) := by decide +kernel
