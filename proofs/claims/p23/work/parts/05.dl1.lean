theorem dL_isOn_3 : decode cL_isOn 3 = .ok (.iaload, 1) := by decide +kernel
theorem dL_isOn_4 : decode cL_isOn 4 = .ok (.ifCond .eq 9, 3) := by decide +kernel
theorem dL_isOn_7 : decode cL_isOn 7 = .ok (.aload_n 0, 1) := by decide +kernel
theorem dL_isOn_8 : decode cL_isOn 8 = .ok (.iconst 1, 1) := by decide +kernel
theorem dL_isOn_9 : decode cL_isOn 9 = .ok (.iaload, 1) := by decide +kernel
theorem dL_isOn_10 : decode cL_isOn 10 = .ok (.ifCond .ne 16, 3) := by decide +kernel
theorem dL_isOn_13 : decode cL_isOn 13 = .ok (.aload_n 1, 1) := by decide +kernel
theorem dL_isOn_14 : decode cL_isOn 14 = .ok (.iload 4, 2) := by decide +kernel
theorem dL_isOn_16 : decode cL_isOn 16 = .ok (.iaload, 1) := by decide +kernel
theorem dL_isOn_17 : decode cL_isOn 17 = .ok (.ifCond .le 7, 3) := by decide +kernel
theorem dL_isOn_20 : decode cL_isOn 20 = .ok (.iconst 1, 1) := by decide +kernel
theorem dL_isOn_21 : decode cL_isOn 21 = .ok (.goto 4, 3) := by decide +kernel
theorem dL_isOn_24 : decode cL_isOn 24 = .ok (.iconst 0, 1) := by decide +kernel
theorem dL_isOn_25 : decode cL_isOn 25 = .ok (.ireturn, 1) := by decide +kernel
theorem dL_isOn_26 : decode cL_isOn 26 = .ok (.aload_n 1, 1) := by decide +kernel
theorem dL_isOn_27 : decode cL_isOn 27 = .ok (.iload 4, 2) := by decide +kernel
theorem dL_isOn_29 : decode cL_isOn 29 = .ok (.iaload, 1) := by decide +kernel
theorem dL_isOn_30 : decode cL_isOn 30 = .ok (.iconst 1, 1) := by decide +kernel
theorem dL_isOn_31 : decode cL_isOn 31 = .ok (.isub, 1) := by decide +kernel
theorem dL_isOn_32 : decode cL_isOn 32 = .ok (.istore 5, 2) := by decide +kernel
theorem dL_isOn_34 : decode cL_isOn 34 = .ok (.aload_n 1, 1) := by decide +kernel
theorem dL_isOn_35 : decode cL_isOn 35 = .ok (.aload_n 2, 1) := by decide +kernel
theorem dL_isOn_36 : decode cL_isOn 36 = .ok (.aload_n 3, 1) := by decide +kernel
theorem dL_isOn_37 : decode cL_isOn 37 = .ok (.iload 4, 2) := by decide +kernel
theorem dL_isOn_39 : decode cL_isOn 39 = .ok (.bipush 6, 2) := by decide +kernel
theorem dL_isOn_41 : decode cL_isOn 41 = .ok (.idiv, 1) := by decide +kernel
theorem dL_isOn_42 : decode cL_isOn 42 = .ok (.invokestatic 13, 3) := by decide +kernel
theorem dL_isOn_45 : decode cL_isOn 45 = .ok (.iload 4, 2) := by decide +kernel
theorem dL_isOn_47 : decode cL_isOn 47 = .ok (.bipush 6, 2) := by decide +kernel
theorem dL_isOn_49 : decode cL_isOn 49 = .ok (.irem, 1) := by decide +kernel
theorem dL_isOn_50 : decode cL_isOn 50 = .ok (.if_icmp .eq 22, 3) := by decide +kernel
theorem dL_isOn_53 : decode cL_isOn 53 = .ok (.aload_n 1, 1) := by decide +kernel
theorem dL_isOn_54 : decode cL_isOn 54 = .ok (.aload_n 2, 1) := by decide +kernel
theorem dL_isOn_55 : decode cL_isOn 55 = .ok (.aload_n 3, 1) := by decide +kernel
theorem dL_isOn_56 : decode cL_isOn 56 = .ok (.iload 5, 2) := by decide +kernel
theorem dL_isOn_58 : decode cL_isOn 58 = .ok (.bipush 6, 2) := by decide +kernel
theorem dL_isOn_60 : decode cL_isOn 60 = .ok (.idiv, 1) := by decide +kernel
theorem dL_isOn_61 : decode cL_isOn 61 = .ok (.invokestatic 13, 3) := by decide +kernel
theorem dL_isOn_64 : decode cL_isOn 64 = .ok (.iload 5, 2) := by decide +kernel
theorem dL_isOn_66 : decode cL_isOn 66 = .ok (.bipush 6, 2) := by decide +kernel
theorem dL_isOn_68 : decode cL_isOn 68 = .ok (.irem, 1) := by decide +kernel
theorem dL_isOn_69 : decode cL_isOn 69 = .ok (.if_icmp .ne 7, 3) := by decide +kernel
theorem dL_isOn_72 : decode cL_isOn 72 = .ok (.iconst 1, 1) := by decide +kernel
theorem dL_isOn_73 : decode cL_isOn 73 = .ok (.goto 4, 3) := by decide +kernel
theorem dL_isOn_76 : decode cL_isOn 76 = .ok (.iconst 0, 1) := by decide +kernel
theorem dL_isOn_77 : decode cL_isOn 77 = .ok (.ireturn, 1) := by decide +kernel
theorem dL_live_0 : decode cL_live 0 = .ok (.bipush 36, 2) := by decide +kernel
theorem dL_live_2 : decode cL_live 2 = .ok (.newarray .int, 2) := by decide +kernel
theorem dL_live_4 : decode cL_live 4 = .ok (.astore_n 3, 1) := by decide +kernel
theorem dL_live_5 : decode cL_live 5 = .ok (.aload_n 1, 1) := by decide +kernel
theorem dL_live_6 : decode cL_live 6 = .ok (.aload_n 2, 1) := by decide +kernel
theorem dL_live_7 : decode cL_live 7 = .ok (.aload_n 3, 1) := by decide +kernel
theorem dL_live_8 : decode cL_live 8 = .ok (.invokestatic 17, 3) := by decide +kernel
theorem dL_live_11 : decode cL_live 11 = .ok (.lconst 0, 1) := by decide +kernel
theorem dL_live_12 : decode cL_live 12 = .ok (.lstore 4, 2) := by decide +kernel
theorem dL_live_14 : decode cL_live 14 = .ok (.iconst 0, 1) := by decide +kernel
theorem dL_live_15 : decode cL_live 15 = .ok (.istore 6, 2) := by decide +kernel
theorem dL_live_17 : decode cL_live 17 = .ok (.iload 6, 2) := by decide +kernel
theorem dL_live_19 : decode cL_live 19 = .ok (.bipush 36, 2) := by decide +kernel
theorem dL_live_21 : decode cL_live 21 = .ok (.if_icmp .ge 34, 3) := by decide +kernel
theorem dL_live_24 : decode cL_live 24 = .ok (.lload 4, 2) := by decide +kernel
theorem dL_live_26 : decode cL_live 26 = .ok (.aload_n 0, 1) := by decide +kernel
theorem dL_live_27 : decode cL_live 27 = .ok (.aload_n 1, 1) := by decide +kernel
theorem dL_live_28 : decode cL_live 28 = .ok (.aload_n 2, 1) := by decide +kernel
theorem dL_live_29 : decode cL_live 29 = .ok (.aload_n 3, 1) := by decide +kernel
theorem dL_live_30 : decode cL_live 30 = .ok (.iload 6, 2) := by decide +kernel
theorem dL_live_32 : decode cL_live 32 = .ok (.invokestatic 21, 3) := by decide +kernel
theorem dL_live_35 : decode cL_live 35 = .ok (.ifCond .eq 10, 3) := by decide +kernel
theorem dL_live_38 : decode cL_live 38 = .ok (.lconst 1, 1) := by decide +kernel
theorem dL_live_39 : decode cL_live 39 = .ok (.iload 6, 2) := by decide +kernel
theorem dL_live_41 : decode cL_live 41 = .ok (.lshl, 1) := by decide +kernel
theorem dL_live_42 : decode cL_live 42 = .ok (.goto 4, 3) := by decide +kernel
theorem dL_live_45 : decode cL_live 45 = .ok (.lconst 0, 1) := by decide +kernel
theorem dL_live_46 : decode cL_live 46 = .ok (.lor, 1) := by decide +kernel
theorem dL_live_47 : decode cL_live 47 = .ok (.lstore 4, 2) := by decide +kernel
theorem dL_live_49 : decode cL_live 49 = .ok (.iinc 6 1, 3) := by decide +kernel
theorem dL_live_52 : decode cL_live 52 = .ok (.goto (-35), 3) := by decide +kernel
theorem dL_live_55 : decode cL_live 55 = .ok (.lload 4, 2) := by decide +kernel
theorem dL_live_57 : decode cL_live 57 = .ok (.lreturn, 1) := by decide +kernel
theorem dL_comes_0 : decode cL_comes 0 = .ok (.aload_n 2, 1) := by decide +kernel
theorem dL_comes_1 : decode cL_comes 1 = .ok (.iload_n 3, 1) := by decide +kernel
theorem dL_comes_2 : decode cL_comes 2 = .ok (.iaload, 1) := by decide +kernel
theorem dL_comes_3 : decode cL_comes 3 = .ok (.iconst 1, 1) := by decide +kernel
theorem dL_comes_4 : decode cL_comes 4 = .ok (.isub, 1) := by decide +kernel
theorem dL_comes_5 : decode cL_comes 5 = .ok (.istore 5, 2) := by decide +kernel
theorem dL_comes_7 : decode cL_comes 7 = .ok (.iload 4, 2) := by decide +kernel
theorem dL_comes_9 : decode cL_comes 9 = .ok (.aload_n 1, 1) := by decide +kernel
theorem dL_comes_10 : decode cL_comes 10 = .ok (.iload_n 3, 1) := by decide +kernel
theorem dL_comes_11 : decode cL_comes 11 = .ok (.iaload, 1) := by decide +kernel
theorem dL_comes_12 : decode cL_comes 12 = .ok (.iand, 1) := by decide +kernel
theorem dL_comes_13 : decode cL_comes 13 = .ok (.aload_n 1, 1) := by decide +kernel
theorem dL_comes_14 : decode cL_comes 14 = .ok (.iload 5, 2) := by decide +kernel
theorem dL_comes_16 : decode cL_comes 16 = .ok (.iaload, 1) := by decide +kernel
theorem dL_comes_17 : decode cL_comes 17 = .ok (.iand, 1) := by decide +kernel
theorem dL_comes_18 : decode cL_comes 18 = .ok (.istore 6, 2) := by decide +kernel
theorem dL_comes_20 : decode cL_comes 20 = .ok (.aload_n 0, 1) := by decide +kernel
theorem dL_comes_21 : decode cL_comes 21 = .ok (.iload_n 3, 1) := by decide +kernel
theorem dL_comes_22 : decode cL_comes 22 = .ok (.iaload, 1) := by decide +kernel
theorem dL_comes_23 : decode cL_comes 23 = .ok (.ifCond .le 34, 3) := by decide +kernel
theorem dL_comes_26 : decode cL_comes 26 = .ok (.aload_n 0, 1) := by decide +kernel
theorem dL_comes_27 : decode cL_comes 27 = .ok (.iload 5, 2) := by decide +kernel
theorem dL_comes_29 : decode cL_comes 29 = .ok (.iaload, 1) := by decide +kernel
theorem dL_comes_30 : decode cL_comes 30 = .ok (.ifCond .le 27, 3) := by decide +kernel
theorem dL_comes_33 : decode cL_comes 33 = .ok (.iload 4, 2) := by decide +kernel
theorem dL_comes_35 : decode cL_comes 35 = .ok (.aload_n 0, 1) := by decide +kernel
theorem dL_comes_36 : decode cL_comes 36 = .ok (.iload_n 3, 1) := by decide +kernel
theorem dL_comes_37 : decode cL_comes 37 = .ok (.iaload, 1) := by decide +kernel
theorem dL_comes_38 : decode cL_comes 38 = .ok (.ishr, 1) := by decide +kernel
theorem dL_comes_39 : decode cL_comes 39 = .ok (.iconst 1, 1) := by decide +kernel
theorem dL_comes_40 : decode cL_comes 40 = .ok (.iand, 1) := by decide +kernel
theorem dL_comes_41 : decode cL_comes 41 = .ok (.iconst 1, 1) := by decide +kernel
theorem dL_comes_42 : decode cL_comes 42 = .ok (.if_icmp .ne 15, 3) := by decide +kernel
theorem dL_comes_45 : decode cL_comes 45 = .ok (.iload 6, 2) := by decide +kernel
theorem dL_comes_47 : decode cL_comes 47 = .ok (.iconst 1, 1) := by decide +kernel
theorem dL_comes_48 : decode cL_comes 48 = .ok (.aload_n 0, 1) := by decide +kernel
theorem dL_comes_49 : decode cL_comes 49 = .ok (.iload 5, 2) := by decide +kernel
theorem dL_comes_51 : decode cL_comes 51 = .ok (.iaload, 1) := by decide +kernel
theorem dL_comes_52 : decode cL_comes 52 = .ok (.ishl, 1) := by decide +kernel
theorem dL_comes_53 : decode cL_comes 53 = .ok (.ior, 1) := by decide +kernel
theorem dL_comes_54 : decode cL_comes 54 = .ok (.goto 5, 3) := by decide +kernel
theorem dL_comes_57 : decode cL_comes 57 = .ok (.iload 6, 2) := by decide +kernel
theorem dL_comes_59 : decode cL_comes 59 = .ok (.ireturn, 1) := by decide +kernel
theorem dL_spreads_0 : decode cL_spreads 0 = .ok (.bipush 6, 2) := by decide +kernel
theorem dL_spreads_2 : decode cL_spreads 2 = .ok (.newarray .int, 2) := by decide +kernel
theorem dL_spreads_4 : decode cL_spreads 4 = .ok (.astore 9, 2) := by decide +kernel
theorem dL_spreads_6 : decode cL_spreads 6 = .ok (.iconst 0, 1) := by decide +kernel
theorem dL_spreads_7 : decode cL_spreads 7 = .ok (.istore 10, 2) := by decide +kernel
theorem dL_spreads_9 : decode cL_spreads 9 = .ok (.iload 10, 2) := by decide +kernel
theorem dL_spreads_11 : decode cL_spreads 11 = .ok (.bipush 6, 2) := by decide +kernel
theorem dL_spreads_13 : decode cL_spreads 13 = .ok (.if_icmp .ge 39, 3) := by decide +kernel
theorem dL_spreads_16 : decode cL_spreads 16 = .ok (.aload 8, 2) := by decide +kernel
theorem dL_spreads_18 : decode cL_spreads 18 = .ok (.iload 10, 2) := by decide +kernel
theorem dL_spreads_20 : decode cL_spreads 20 = .ok (.iload 10, 2) := by decide +kernel
theorem dL_spreads_22 : decode cL_spreads 22 = .ok (.iload 5, 2) := by decide +kernel
theorem dL_spreads_24 : decode cL_spreads 24 = .ok (.if_icmp .ne 10, 3) := by decide +kernel
theorem dL_spreads_27 : decode cL_spreads 27 = .ok (.iconst 1, 1) := by decide +kernel
theorem dL_spreads_28 : decode cL_spreads 28 = .ok (.iload 6, 2) := by decide +kernel
theorem dL_spreads_30 : decode cL_spreads 30 = .ok (.ishl, 1) := by decide +kernel
theorem dL_spreads_31 : decode cL_spreads 31 = .ok (.goto 4, 3) := by decide +kernel
theorem dL_spreads_34 : decode cL_spreads 34 = .ok (.iconst 0, 1) := by decide +kernel
theorem dL_spreads_35 : decode cL_spreads 35 = .ok (.iastore, 1) := by decide +kernel
theorem dL_spreads_36 : decode cL_spreads 36 = .ok (.aload 9, 2) := by decide +kernel
theorem dL_spreads_38 : decode cL_spreads 38 = .ok (.iload 10, 2) := by decide +kernel
theorem dL_spreads_40 : decode cL_spreads 40 = .ok (.aload 8, 2) := by decide +kernel
theorem dL_spreads_42 : decode cL_spreads 42 = .ok (.iload 10, 2) := by decide +kernel
theorem dL_spreads_44 : decode cL_spreads 44 = .ok (.iaload, 1) := by decide +kernel
theorem dL_spreads_45 : decode cL_spreads 45 = .ok (.iastore, 1) := by decide +kernel
theorem dL_spreads_46 : decode cL_spreads 46 = .ok (.iinc 10 1, 3) := by decide +kernel
theorem dL_spreads_49 : decode cL_spreads 49 = .ok (.goto (-40), 3) := by decide +kernel
theorem dL_spreads_52 : decode cL_spreads 52 = .ok (.iconst 1, 1) := by decide +kernel
theorem dL_spreads_53 : decode cL_spreads 53 = .ok (.istore 10, 2) := by decide +kernel
theorem dL_spreads_55 : decode cL_spreads 55 = .ok (.iconst 0, 1) := by decide +kernel
theorem dL_spreads_56 : decode cL_spreads 56 = .ok (.istore 11, 2) := by decide +kernel
theorem dL_spreads_58 : decode cL_spreads 58 = .ok (.iload 11, 2) := by decide +kernel
theorem dL_spreads_60 : decode cL_spreads 60 = .ok (.iload 7, 2) := by decide +kernel
theorem dL_spreads_62 : decode cL_spreads 62 = .ok (.if_icmp .ge 126, 3) := by decide +kernel
theorem dL_spreads_65 : decode cL_spreads 65 = .ok (.iload 10, 2) := by decide +kernel
theorem dL_spreads_67 : decode cL_spreads 67 = .ok (.ifCond .eq 121, 3) := by decide +kernel
theorem dL_spreads_70 : decode cL_spreads 70 = .ok (.iconst 0, 1) := by decide +kernel
theorem dL_spreads_71 : decode cL_spreads 71 = .ok (.istore 12, 2) := by decide +kernel
theorem dL_spreads_73 : decode cL_spreads 73 = .ok (.iload 12, 2) := by decide +kernel
theorem dL_spreads_75 : decode cL_spreads 75 = .ok (.bipush 36, 2) := by decide +kernel
theorem dL_spreads_77 : decode cL_spreads 77 = .ok (.if_icmp .ge 51, 3) := by decide +kernel
theorem dL_spreads_80 : decode cL_spreads 80 = .ok (.lload_n 3, 1) := by decide +kernel
theorem dL_spreads_81 : decode cL_spreads 81 = .ok (.iload 12, 2) := by decide +kernel
theorem dL_spreads_83 : decode cL_spreads 83 = .ok (.lshr, 1) := by decide +kernel
theorem dL_spreads_84 : decode cL_spreads 84 = .ok (.lconst 1, 1) := by decide +kernel
theorem dL_spreads_85 : decode cL_spreads 85 = .ok (.land, 1) := by decide +kernel
theorem dL_spreads_86 : decode cL_spreads 86 = .ok (.lconst 1, 1) := by decide +kernel
theorem dL_spreads_87 : decode cL_spreads 87 = .ok (.lcmp, 1) := by decide +kernel
theorem dL_spreads_88 : decode cL_spreads 88 = .ok (.ifCond .ne 34, 3) := by decide +kernel
theorem dL_spreads_91 : decode cL_spreads 91 = .ok (.aload 9, 2) := by decide +kernel
theorem dL_spreads_93 : decode cL_spreads 93 = .ok (.aload_n 2, 1) := by decide +kernel
theorem dL_spreads_94 : decode cL_spreads 94 = .ok (.iload 12, 2) := by decide +kernel
theorem dL_spreads_96 : decode cL_spreads 96 = .ok (.iaload, 1) := by decide +kernel
theorem dL_spreads_97 : decode cL_spreads 97 = .ok (.iconst 1, 1) := by decide +kernel
theorem dL_spreads_98 : decode cL_spreads 98 = .ok (.isub, 1) := by decide +kernel
theorem dL_spreads_99 : decode cL_spreads 99 = .ok (.bipush 6, 2) := by decide +kernel
theorem dL_spreads_101 : decode cL_spreads 101 = .ok (.idiv, 1) := by decide +kernel
theorem dL_spreads_102 : decode cL_spreads 102 = .ok (.dup2, 1) := by decide +kernel
theorem dL_spreads_103 : decode cL_spreads 103 = .ok (.iaload, 1) := by decide +kernel
theorem dL_spreads_104 : decode cL_spreads 104 = .ok (.aload_n 0, 1) := by decide +kernel
theorem dL_spreads_105 : decode cL_spreads 105 = .ok (.aload_n 1, 1) := by decide +kernel
theorem dL_spreads_106 : decode cL_spreads 106 = .ok (.aload_n 2, 1) := by decide +kernel
theorem dL_spreads_107 : decode cL_spreads 107 = .ok (.iload 12, 2) := by decide +kernel
theorem dL_spreads_109 : decode cL_spreads 109 = .ok (.aload 8, 2) := by decide +kernel
theorem dL_spreads_111 : decode cL_spreads 111 = .ok (.iload 12, 2) := by decide +kernel
theorem dL_spreads_113 : decode cL_spreads 113 = .ok (.bipush 6, 2) := by decide +kernel
theorem dL_spreads_115 : decode cL_spreads 115 = .ok (.idiv, 1) := by decide +kernel
theorem dL_spreads_116 : decode cL_spreads 116 = .ok (.iaload, 1) := by decide +kernel
theorem dL_spreads_117 : decode cL_spreads 117 = .ok (.invokestatic 25, 3) := by decide +kernel
theorem dL_spreads_120 : decode cL_spreads 120 = .ok (.ior, 1) := by decide +kernel
theorem dL_spreads_121 : decode cL_spreads 121 = .ok (.iastore, 1) := by decide +kernel
theorem dL_spreads_122 : decode cL_spreads 122 = .ok (.iinc 12 1, 3) := by decide +kernel
theorem dL_spreads_125 : decode cL_spreads 125 = .ok (.goto (-52), 3) := by decide +kernel
theorem dL_spreads_128 : decode cL_spreads 128 = .ok (.iconst 0, 1) := by decide +kernel
theorem dL_spreads_129 : decode cL_spreads 129 = .ok (.istore 10, 2) := by decide +kernel
theorem dL_spreads_131 : decode cL_spreads 131 = .ok (.iconst 0, 1) := by decide +kernel
theorem dL_spreads_132 : decode cL_spreads 132 = .ok (.istore 12, 2) := by decide +kernel
theorem dL_spreads_134 : decode cL_spreads 134 = .ok (.iload 12, 2) := by decide +kernel
theorem dL_spreads_136 : decode cL_spreads 136 = .ok (.bipush 6, 2) := by decide +kernel
theorem dL_spreads_138 : decode cL_spreads 138 = .ok (.if_icmp .ge 44, 3) := by decide +kernel
theorem dL_spreads_141 : decode cL_spreads 141 = .ok (.iload 10, 2) := by decide +kernel
theorem dL_spreads_143 : decode cL_spreads 143 = .ok (.ifCond .ne 16, 3) := by decide +kernel
theorem dL_spreads_146 : decode cL_spreads 146 = .ok (.aload 9, 2) := by decide +kernel
theorem dL_spreads_148 : decode cL_spreads 148 = .ok (.iload 12, 2) := by decide +kernel
theorem dL_spreads_150 : decode cL_spreads 150 = .ok (.iaload, 1) := by decide +kernel
theorem dL_spreads_151 : decode cL_spreads 151 = .ok (.aload 8, 2) := by decide +kernel
theorem dL_spreads_153 : decode cL_spreads 153 = .ok (.iload 12, 2) := by decide +kernel
theorem dL_spreads_155 : decode cL_spreads 155 = .ok (.iaload, 1) := by decide +kernel
theorem dL_spreads_156 : decode cL_spreads 156 = .ok (.if_icmp .eq 7, 3) := by decide +kernel
theorem dL_spreads_159 : decode cL_spreads 159 = .ok (.iconst 1, 1) := by decide +kernel
theorem dL_spreads_160 : decode cL_spreads 160 = .ok (.goto 4, 3) := by decide +kernel
theorem dL_spreads_163 : decode cL_spreads 163 = .ok (.iconst 0, 1) := by decide +kernel
theorem dL_spreads_164 : decode cL_spreads 164 = .ok (.istore 10, 2) := by decide +kernel
theorem dL_spreads_166 : decode cL_spreads 166 = .ok (.aload 8, 2) := by decide +kernel
theorem dL_spreads_168 : decode cL_spreads 168 = .ok (.iload 12, 2) := by decide +kernel
theorem dL_spreads_170 : decode cL_spreads 170 = .ok (.aload 9, 2) := by decide +kernel
theorem dL_spreads_172 : decode cL_spreads 172 = .ok (.iload 12, 2) := by decide +kernel
theorem dL_spreads_174 : decode cL_spreads 174 = .ok (.iaload, 1) := by decide +kernel
theorem dL_spreads_175 : decode cL_spreads 175 = .ok (.iastore, 1) := by decide +kernel
theorem dL_spreads_176 : decode cL_spreads 176 = .ok (.iinc 12 1, 3) := by decide +kernel
theorem dL_spreads_179 : decode cL_spreads 179 = .ok (.goto (-45), 3) := by decide +kernel
theorem dL_spreads_182 : decode cL_spreads 182 = .ok (.iinc 11 1, 3) := by decide +kernel
theorem dL_spreads_185 : decode cL_spreads 185 = .ok (.goto (-127), 3) := by decide +kernel
theorem dL_spreads_188 : decode cL_spreads 188 = .ok (.return_, 1) := by decide +kernel
theorem dL_hops_0 : decode cL_hops 0 = .ok (.bipush 6, 2) := by decide +kernel
theorem dL_hops_2 : decode cL_hops 2 = .ok (.newarray .int, 2) := by decide +kernel
theorem dL_hops_4 : decode cL_hops 4 = .ok (.astore 9, 2) := by decide +kernel
theorem dL_hops_6 : decode cL_hops 6 = .ok (.aload_n 0, 1) := by decide +kernel
theorem dL_hops_7 : decode cL_hops 7 = .ok (.aload_n 1, 1) := by decide +kernel
theorem dL_hops_8 : decode cL_hops 8 = .ok (.aload_n 2, 1) := by decide +kernel
theorem dL_hops_9 : decode cL_hops 9 = .ok (.lload_n 3, 1) := by decide +kernel
theorem dL_hops_10 : decode cL_hops 10 = .ok (.iload 5, 2) := by decide +kernel
theorem dL_hops_12 : decode cL_hops 12 = .ok (.iload 6, 2) := by decide +kernel
theorem dL_hops_14 : decode cL_hops 14 = .ok (.bipush 90, 2) := by decide +kernel
theorem dL_hops_16 : decode cL_hops 16 = .ok (.aload 9, 2) := by decide +kernel
theorem dL_hops_18 : decode cL_hops 18 = .ok (.invokestatic 29, 3) := by decide +kernel
theorem dL_hops_21 : decode cL_hops 21 = .ok (.aload 9, 2) := by decide +kernel
theorem dL_hops_23 : decode cL_hops 23 = .ok (.iload 7, 2) := by decide +kernel
theorem dL_hops_25 : decode cL_hops 25 = .ok (.iaload, 1) := by decide +kernel
theorem dL_hops_26 : decode cL_hops 26 = .ok (.iload 8, 2) := by decide +kernel
theorem dL_hops_28 : decode cL_hops 28 = .ok (.ishr, 1) := by decide +kernel
theorem dL_hops_29 : decode cL_hops 29 = .ok (.iconst 1, 1) := by decide +kernel
theorem dL_hops_30 : decode cL_hops 30 = .ok (.iand, 1) := by decide +kernel
theorem dL_hops_31 : decode cL_hops 31 = .ok (.ifCond .ne 5, 3) := by decide +kernel
theorem dL_hops_34 : decode cL_hops 34 = .ok (.iconst (-1), 1) := by decide +kernel
theorem dL_hops_35 : decode cL_hops 35 = .ok (.ireturn, 1) := by decide +kernel
theorem dL_hops_36 : decode cL_hops 36 = .ok (.iconst 0, 1) := by decide +kernel
theorem dL_hops_37 : decode cL_hops 37 = .ok (.istore 10, 2) := by decide +kernel
