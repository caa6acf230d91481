theorem dL_bits_0 : decode cL_bits 0 = .ok (.iconst 0, 1) := by decide +kernel
theorem dL_bits_1 : decode cL_bits 1 = .ok (.istore_n 1, 1) := by decide +kernel
theorem dL_bits_2 : decode cL_bits 2 = .ok (.iload_n 0, 1) := by decide +kernel
theorem dL_bits_3 : decode cL_bits 3 = .ok (.istore_n 2, 1) := by decide +kernel
theorem dL_bits_4 : decode cL_bits 4 = .ok (.iload_n 2, 1) := by decide +kernel
theorem dL_bits_5 : decode cL_bits 5 = .ok (.ifCond .le 15, 3) := by decide +kernel
theorem dL_bits_8 : decode cL_bits 8 = .ok (.iinc 1 1, 3) := by decide +kernel
theorem dL_bits_11 : decode cL_bits 11 = .ok (.iload_n 2, 1) := by decide +kernel
theorem dL_bits_12 : decode cL_bits 12 = .ok (.iload_n 2, 1) := by decide +kernel
theorem dL_bits_13 : decode cL_bits 13 = .ok (.iconst 1, 1) := by decide +kernel
theorem dL_bits_14 : decode cL_bits 14 = .ok (.isub, 1) := by decide +kernel
theorem dL_bits_15 : decode cL_bits 15 = .ok (.iand, 1) := by decide +kernel
theorem dL_bits_16 : decode cL_bits 16 = .ok (.istore_n 2, 1) := by decide +kernel
theorem dL_bits_17 : decode cL_bits 17 = .ok (.goto (-13), 3) := by decide +kernel
theorem dL_bits_20 : decode cL_bits 20 = .ok (.iload_n 1, 1) := by decide +kernel
theorem dL_bits_21 : decode cL_bits 21 = .ok (.ireturn, 1) := by decide +kernel
theorem dL_sums_0 : decode cL_sums 0 = .ok (.iconst 0, 1) := by decide +kernel
theorem dL_sums_1 : decode cL_sums 1 = .ok (.istore_n 3, 1) := by decide +kernel
theorem dL_sums_2 : decode cL_sums 2 = .ok (.iload_n 3, 1) := by decide +kernel
theorem dL_sums_3 : decode cL_sums 3 = .ok (.bipush 36, 2) := by decide +kernel
theorem dL_sums_5 : decode cL_sums 5 = .ok (.if_icmp .ge 26, 3) := by decide +kernel
theorem dL_sums_8 : decode cL_sums 8 = .ok (.aload_n 2, 1) := by decide +kernel
theorem dL_sums_9 : decode cL_sums 9 = .ok (.iload_n 3, 1) := by decide +kernel
theorem dL_sums_10 : decode cL_sums 10 = .ok (.iload_n 3, 1) := by decide +kernel
theorem dL_sums_11 : decode cL_sums 11 = .ok (.bipush 7, 2) := by decide +kernel
theorem dL_sums_13 : decode cL_sums 13 = .ok (.irem, 1) := by decide +kernel
theorem dL_sums_14 : decode cL_sums 14 = .ok (.ifCond .ne 7, 3) := by decide +kernel
theorem dL_sums_17 : decode cL_sums 17 = .ok (.iconst 0, 1) := by decide +kernel
theorem dL_sums_18 : decode cL_sums 18 = .ok (.goto 6, 3) := by decide +kernel
theorem dL_sums_21 : decode cL_sums 21 = .ok (.sipush 9999, 3) := by decide +kernel
theorem dL_sums_24 : decode cL_sums 24 = .ok (.iastore, 1) := by decide +kernel
theorem dL_sums_25 : decode cL_sums 25 = .ok (.iinc 3 1, 3) := by decide +kernel
theorem dL_sums_28 : decode cL_sums 28 = .ok (.goto (-26), 3) := by decide +kernel
theorem dL_sums_31 : decode cL_sums 31 = .ok (.iconst 0, 1) := by decide +kernel
theorem dL_sums_32 : decode cL_sums 32 = .ok (.istore_n 3, 1) := by decide +kernel
theorem dL_sums_33 : decode cL_sums 33 = .ok (.iload_n 3, 1) := by decide +kernel
theorem dL_sums_34 : decode cL_sums 34 = .ok (.bipush 36, 2) := by decide +kernel
theorem dL_sums_36 : decode cL_sums 36 = .ok (.if_icmp .ge 57, 3) := by decide +kernel
theorem dL_sums_39 : decode cL_sums 39 = .ok (.iload_n 3, 1) := by decide +kernel
theorem dL_sums_40 : decode cL_sums 40 = .ok (.bipush 6, 2) := by decide +kernel
theorem dL_sums_42 : decode cL_sums 42 = .ok (.idiv, 1) := by decide +kernel
theorem dL_sums_43 : decode cL_sums 43 = .ok (.bipush 6, 2) := by decide +kernel
theorem dL_sums_45 : decode cL_sums 45 = .ok (.imul, 1) := by decide +kernel
theorem dL_sums_46 : decode cL_sums 46 = .ok (.aload_n 0, 1) := by decide +kernel
theorem dL_sums_47 : decode cL_sums 47 = .ok (.iload_n 3, 1) := by decide +kernel
theorem dL_sums_48 : decode cL_sums 48 = .ok (.iaload, 1) := by decide +kernel
theorem dL_sums_49 : decode cL_sums 49 = .ok (.iconst 1, 1) := by decide +kernel
theorem dL_sums_50 : decode cL_sums 50 = .ok (.isub, 1) := by decide +kernel
theorem dL_sums_51 : decode cL_sums 51 = .ok (.bipush 6, 2) := by decide +kernel
theorem dL_sums_53 : decode cL_sums 53 = .ok (.idiv, 1) := by decide +kernel
theorem dL_sums_54 : decode cL_sums 54 = .ok (.iadd, 1) := by decide +kernel
theorem dL_sums_55 : decode cL_sums 55 = .ok (.istore 4, 2) := by decide +kernel
theorem dL_sums_57 : decode cL_sums 57 = .ok (.aload_n 2, 1) := by decide +kernel
theorem dL_sums_58 : decode cL_sums 58 = .ok (.iload 4, 2) := by decide +kernel
theorem dL_sums_60 : decode cL_sums 60 = .ok (.aload_n 0, 1) := by decide +kernel
theorem dL_sums_61 : decode cL_sums 61 = .ok (.iload_n 3, 1) := by decide +kernel
theorem dL_sums_62 : decode cL_sums 62 = .ok (.iaload, 1) := by decide +kernel
theorem dL_sums_63 : decode cL_sums 63 = .ok (.ifCond .le 19, 3) := by decide +kernel
theorem dL_sums_66 : decode cL_sums 66 = .ok (.aload_n 1, 1) := by decide +kernel
theorem dL_sums_67 : decode cL_sums 67 = .ok (.iload_n 3, 1) := by decide +kernel
theorem dL_sums_68 : decode cL_sums 68 = .ok (.iaload, 1) := by decide +kernel
theorem dL_sums_69 : decode cL_sums 69 = .ok (.aload_n 2, 1) := by decide +kernel
theorem dL_sums_70 : decode cL_sums 70 = .ok (.iload 4, 2) := by decide +kernel
theorem dL_sums_72 : decode cL_sums 72 = .ok (.iaload, 1) := by decide +kernel
theorem dL_sums_73 : decode cL_sums 73 = .ok (.if_icmp .ge 9, 3) := by decide +kernel
theorem dL_sums_76 : decode cL_sums 76 = .ok (.aload_n 1, 1) := by decide +kernel
theorem dL_sums_77 : decode cL_sums 77 = .ok (.iload_n 3, 1) := by decide +kernel
theorem dL_sums_78 : decode cL_sums 78 = .ok (.iaload, 1) := by decide +kernel
theorem dL_sums_79 : decode cL_sums 79 = .ok (.goto 7, 3) := by decide +kernel
theorem dL_sums_82 : decode cL_sums 82 = .ok (.aload_n 2, 1) := by decide +kernel
theorem dL_sums_83 : decode cL_sums 83 = .ok (.iload 4, 2) := by decide +kernel
theorem dL_sums_85 : decode cL_sums 85 = .ok (.iaload, 1) := by decide +kernel
theorem dL_sums_86 : decode cL_sums 86 = .ok (.iastore, 1) := by decide +kernel
theorem dL_sums_87 : decode cL_sums 87 = .ok (.iinc 3 1, 3) := by decide +kernel
theorem dL_sums_90 : decode cL_sums 90 = .ok (.goto (-57), 3) := by decide +kernel
theorem dL_sums_93 : decode cL_sums 93 = .ok (.iconst 0, 1) := by decide +kernel
theorem dL_sums_94 : decode cL_sums 94 = .ok (.istore_n 3, 1) := by decide +kernel
theorem dL_sums_95 : decode cL_sums 95 = .ok (.iload_n 3, 1) := by decide +kernel
theorem dL_sums_96 : decode cL_sums 96 = .ok (.sipush 216, 3) := by decide +kernel
theorem dL_sums_99 : decode cL_sums 99 = .ok (.if_icmp .ge 95, 3) := by decide +kernel
theorem dL_sums_102 : decode cL_sums 102 = .ok (.iload_n 3, 1) := by decide +kernel
theorem dL_sums_103 : decode cL_sums 103 = .ok (.bipush 36, 2) := by decide +kernel
theorem dL_sums_105 : decode cL_sums 105 = .ok (.idiv, 1) := by decide +kernel
theorem dL_sums_106 : decode cL_sums 106 = .ok (.istore 4, 2) := by decide +kernel
theorem dL_sums_108 : decode cL_sums 108 = .ok (.iload_n 3, 1) := by decide +kernel
theorem dL_sums_109 : decode cL_sums 109 = .ok (.bipush 6, 2) := by decide +kernel
theorem dL_sums_111 : decode cL_sums 111 = .ok (.idiv, 1) := by decide +kernel
theorem dL_sums_112 : decode cL_sums 112 = .ok (.bipush 6, 2) := by decide +kernel
theorem dL_sums_114 : decode cL_sums 114 = .ok (.irem, 1) := by decide +kernel
theorem dL_sums_115 : decode cL_sums 115 = .ok (.istore 5, 2) := by decide +kernel
theorem dL_sums_117 : decode cL_sums 117 = .ok (.aload_n 2, 1) := by decide +kernel
theorem dL_sums_118 : decode cL_sums 118 = .ok (.bipush 6, 2) := by decide +kernel
theorem dL_sums_120 : decode cL_sums 120 = .ok (.iload 5, 2) := by decide +kernel
theorem dL_sums_122 : decode cL_sums 122 = .ok (.imul, 1) := by decide +kernel
theorem dL_sums_123 : decode cL_sums 123 = .ok (.iload 4, 2) := by decide +kernel
theorem dL_sums_125 : decode cL_sums 125 = .ok (.iadd, 1) := by decide +kernel
theorem dL_sums_126 : decode cL_sums 126 = .ok (.iaload, 1) := by decide +kernel
theorem dL_sums_127 : decode cL_sums 127 = .ok (.aload_n 2, 1) := by decide +kernel
theorem dL_sums_128 : decode cL_sums 128 = .ok (.bipush 6, 2) := by decide +kernel
theorem dL_sums_130 : decode cL_sums 130 = .ok (.iload 4, 2) := by decide +kernel
theorem dL_sums_132 : decode cL_sums 132 = .ok (.imul, 1) := by decide +kernel
theorem dL_sums_133 : decode cL_sums 133 = .ok (.iload_n 3, 1) := by decide +kernel
theorem dL_sums_134 : decode cL_sums 134 = .ok (.bipush 6, 2) := by decide +kernel
theorem dL_sums_136 : decode cL_sums 136 = .ok (.irem, 1) := by decide +kernel
theorem dL_sums_137 : decode cL_sums 137 = .ok (.iadd, 1) := by decide +kernel
theorem dL_sums_138 : decode cL_sums 138 = .ok (.iaload, 1) := by decide +kernel
theorem dL_sums_139 : decode cL_sums 139 = .ok (.iadd, 1) := by decide +kernel
theorem dL_sums_140 : decode cL_sums 140 = .ok (.istore 6, 2) := by decide +kernel
theorem dL_sums_142 : decode cL_sums 142 = .ok (.aload_n 2, 1) := by decide +kernel
theorem dL_sums_143 : decode cL_sums 143 = .ok (.bipush 6, 2) := by decide +kernel
theorem dL_sums_145 : decode cL_sums 145 = .ok (.iload 5, 2) := by decide +kernel
theorem dL_sums_147 : decode cL_sums 147 = .ok (.imul, 1) := by decide +kernel
theorem dL_sums_148 : decode cL_sums 148 = .ok (.iload_n 3, 1) := by decide +kernel
theorem dL_sums_149 : decode cL_sums 149 = .ok (.bipush 6, 2) := by decide +kernel
theorem dL_sums_151 : decode cL_sums 151 = .ok (.irem, 1) := by decide +kernel
theorem dL_sums_152 : decode cL_sums 152 = .ok (.iadd, 1) := by decide +kernel
theorem dL_sums_153 : decode cL_sums 153 = .ok (.iload 6, 2) := by decide +kernel
theorem dL_sums_155 : decode cL_sums 155 = .ok (.aload_n 2, 1) := by decide +kernel
theorem dL_sums_156 : decode cL_sums 156 = .ok (.bipush 6, 2) := by decide +kernel
theorem dL_sums_158 : decode cL_sums 158 = .ok (.iload 5, 2) := by decide +kernel
theorem dL_sums_160 : decode cL_sums 160 = .ok (.imul, 1) := by decide +kernel
theorem dL_sums_161 : decode cL_sums 161 = .ok (.iload_n 3, 1) := by decide +kernel
theorem dL_sums_162 : decode cL_sums 162 = .ok (.bipush 6, 2) := by decide +kernel
theorem dL_sums_164 : decode cL_sums 164 = .ok (.irem, 1) := by decide +kernel
theorem dL_sums_165 : decode cL_sums 165 = .ok (.iadd, 1) := by decide +kernel
theorem dL_sums_166 : decode cL_sums 166 = .ok (.iaload, 1) := by decide +kernel
theorem dL_sums_167 : decode cL_sums 167 = .ok (.if_icmp .ge 8, 3) := by decide +kernel
theorem dL_sums_170 : decode cL_sums 170 = .ok (.iload 6, 2) := by decide +kernel
theorem dL_sums_172 : decode cL_sums 172 = .ok (.goto 15, 3) := by decide +kernel
theorem dL_sums_175 : decode cL_sums 175 = .ok (.aload_n 2, 1) := by decide +kernel
theorem dL_sums_176 : decode cL_sums 176 = .ok (.bipush 6, 2) := by decide +kernel
theorem dL_sums_178 : decode cL_sums 178 = .ok (.iload 5, 2) := by decide +kernel
theorem dL_sums_180 : decode cL_sums 180 = .ok (.imul, 1) := by decide +kernel
theorem dL_sums_181 : decode cL_sums 181 = .ok (.iload_n 3, 1) := by decide +kernel
theorem dL_sums_182 : decode cL_sums 182 = .ok (.bipush 6, 2) := by decide +kernel
theorem dL_sums_184 : decode cL_sums 184 = .ok (.irem, 1) := by decide +kernel
theorem dL_sums_185 : decode cL_sums 185 = .ok (.iadd, 1) := by decide +kernel
theorem dL_sums_186 : decode cL_sums 186 = .ok (.iaload, 1) := by decide +kernel
theorem dL_sums_187 : decode cL_sums 187 = .ok (.iastore, 1) := by decide +kernel
theorem dL_sums_188 : decode cL_sums 188 = .ok (.iinc 3 1, 3) := by decide +kernel
theorem dL_sums_191 : decode cL_sums 191 = .ok (.goto (-96), 3) := by decide +kernel
theorem dL_sums_194 : decode cL_sums 194 = .ok (.return_, 1) := by decide +kernel
theorem dL_root_0 : decode cL_root 0 = .ok (.iload_n 1, 1) := by decide +kernel
theorem dL_root_1 : decode cL_root 1 = .ok (.istore_n 2, 1) := by decide +kernel
theorem dL_root_2 : decode cL_root 2 = .ok (.iconst 5, 1) := by decide +kernel
theorem dL_root_3 : decode cL_root 3 = .ok (.istore_n 3, 1) := by decide +kernel
theorem dL_root_4 : decode cL_root 4 = .ok (.iload_n 3, 1) := by decide +kernel
theorem dL_root_5 : decode cL_root 5 = .ok (.ifCond .lt 29, 3) := by decide +kernel
theorem dL_root_8 : decode cL_root 8 = .ok (.aload_n 0, 1) := by decide +kernel
theorem dL_root_9 : decode cL_root 9 = .ok (.bipush 6, 2) := by decide +kernel
theorem dL_root_11 : decode cL_root 11 = .ok (.iload_n 1, 1) := by decide +kernel
theorem dL_root_12 : decode cL_root 12 = .ok (.imul, 1) := by decide +kernel
theorem dL_root_13 : decode cL_root 13 = .ok (.iload_n 3, 1) := by decide +kernel
theorem dL_root_14 : decode cL_root 14 = .ok (.iadd, 1) := by decide +kernel
theorem dL_root_15 : decode cL_root 15 = .ok (.iaload, 1) := by decide +kernel
theorem dL_root_16 : decode cL_root 16 = .ok (.sipush 9999, 3) := by decide +kernel
theorem dL_root_19 : decode cL_root 19 = .ok (.if_icmp .ge 7, 3) := by decide +kernel
theorem dL_root_22 : decode cL_root 22 = .ok (.iload_n 3, 1) := by decide +kernel
theorem dL_root_23 : decode cL_root 23 = .ok (.goto 4, 3) := by decide +kernel
theorem dL_root_26 : decode cL_root 26 = .ok (.iload_n 2, 1) := by decide +kernel
theorem dL_root_27 : decode cL_root 27 = .ok (.istore_n 2, 1) := by decide +kernel
theorem dL_root_28 : decode cL_root 28 = .ok (.iinc 3 (-1), 3) := by decide +kernel
theorem dL_root_31 : decode cL_root 31 = .ok (.goto (-27), 3) := by decide +kernel
theorem dL_root_34 : decode cL_root 34 = .ok (.iload_n 2, 1) := by decide +kernel
theorem dL_root_35 : decode cL_root 35 = .ok (.ireturn, 1) := by decide +kernel
theorem dL_way_0 : decode cL_way 0 = .ok (.aload_n 2, 1) := by decide +kernel
theorem dL_way_1 : decode cL_way 1 = .ok (.iload_n 3, 1) := by decide +kernel
theorem dL_way_2 : decode cL_way 2 = .ok (.invokestatic 7, 3) := by decide +kernel
theorem dL_way_5 : decode cL_way 5 = .ok (.istore 4, 2) := by decide +kernel
theorem dL_way_7 : decode cL_way 7 = .ok (.iconst (-1), 1) := by decide +kernel
theorem dL_way_8 : decode cL_way 8 = .ok (.istore 5, 2) := by decide +kernel
theorem dL_way_10 : decode cL_way 10 = .ok (.iconst 5, 1) := by decide +kernel
theorem dL_way_11 : decode cL_way 11 = .ok (.istore 6, 2) := by decide +kernel
theorem dL_way_13 : decode cL_way 13 = .ok (.iload 6, 2) := by decide +kernel
theorem dL_way_15 : decode cL_way 15 = .ok (.ifCond .lt 117, 3) := by decide +kernel
theorem dL_way_18 : decode cL_way 18 = .ok (.iload 4, 2) := by decide +kernel
theorem dL_way_20 : decode cL_way 20 = .ok (.iload_n 3, 1) := by decide +kernel
theorem dL_way_21 : decode cL_way 21 = .ok (.if_icmp .eq 111, 3) := by decide +kernel
theorem dL_way_24 : decode cL_way 24 = .ok (.bipush 6, 2) := by decide +kernel
theorem dL_way_26 : decode cL_way 26 = .ok (.iload_n 3, 1) := by decide +kernel
theorem dL_way_27 : decode cL_way 27 = .ok (.imul, 1) := by decide +kernel
theorem dL_way_28 : decode cL_way 28 = .ok (.iload 6, 2) := by decide +kernel
theorem dL_way_30 : decode cL_way 30 = .ok (.iadd, 1) := by decide +kernel
theorem dL_way_31 : decode cL_way 31 = .ok (.istore 7, 2) := by decide +kernel
theorem dL_way_33 : decode cL_way 33 = .ok (.aload_n 0, 1) := by decide +kernel
theorem dL_way_34 : decode cL_way 34 = .ok (.iload 7, 2) := by decide +kernel
theorem dL_way_36 : decode cL_way 36 = .ok (.iaload, 1) := by decide +kernel
theorem dL_way_37 : decode cL_way 37 = .ok (.ifCond .le 41, 3) := by decide +kernel
theorem dL_way_40 : decode cL_way 40 = .ok (.aload_n 1, 1) := by decide +kernel
theorem dL_way_41 : decode cL_way 41 = .ok (.iload 7, 2) := by decide +kernel
theorem dL_way_43 : decode cL_way 43 = .ok (.iaload, 1) := by decide +kernel
theorem dL_way_44 : decode cL_way 44 = .ok (.aload_n 2, 1) := by decide +kernel
theorem dL_way_45 : decode cL_way 45 = .ok (.aload_n 0, 1) := by decide +kernel
theorem dL_way_46 : decode cL_way 46 = .ok (.iload 7, 2) := by decide +kernel
theorem dL_way_48 : decode cL_way 48 = .ok (.iaload, 1) := by decide +kernel
theorem dL_way_49 : decode cL_way 49 = .ok (.iconst 1, 1) := by decide +kernel
theorem dL_way_50 : decode cL_way 50 = .ok (.isub, 1) := by decide +kernel
theorem dL_way_51 : decode cL_way 51 = .ok (.bipush 6, 2) := by decide +kernel
theorem dL_way_53 : decode cL_way 53 = .ok (.idiv, 1) := by decide +kernel
theorem dL_way_54 : decode cL_way 54 = .ok (.bipush 6, 2) := by decide +kernel
theorem dL_way_56 : decode cL_way 56 = .ok (.imul, 1) := by decide +kernel
theorem dL_way_57 : decode cL_way 57 = .ok (.iload 4, 2) := by decide +kernel
theorem dL_way_59 : decode cL_way 59 = .ok (.iadd, 1) := by decide +kernel
theorem dL_way_60 : decode cL_way 60 = .ok (.iaload, 1) := by decide +kernel
theorem dL_way_61 : decode cL_way 61 = .ok (.iadd, 1) := by decide +kernel
theorem dL_way_62 : decode cL_way 62 = .ok (.aload_n 2, 1) := by decide +kernel
theorem dL_way_63 : decode cL_way 63 = .ok (.bipush 6, 2) := by decide +kernel
theorem dL_way_65 : decode cL_way 65 = .ok (.iload_n 3, 1) := by decide +kernel
theorem dL_way_66 : decode cL_way 66 = .ok (.imul, 1) := by decide +kernel
theorem dL_way_67 : decode cL_way 67 = .ok (.iload 4, 2) := by decide +kernel
theorem dL_way_69 : decode cL_way 69 = .ok (.iadd, 1) := by decide +kernel
theorem dL_way_70 : decode cL_way 70 = .ok (.iaload, 1) := by decide +kernel
theorem dL_way_71 : decode cL_way 71 = .ok (.if_icmp .ne 7, 3) := by decide +kernel
theorem dL_way_74 : decode cL_way 74 = .ok (.iconst 1, 1) := by decide +kernel
theorem dL_way_75 : decode cL_way 75 = .ok (.goto 4, 3) := by decide +kernel
theorem dL_way_78 : decode cL_way 78 = .ok (.iconst 0, 1) := by decide +kernel
theorem dL_way_79 : decode cL_way 79 = .ok (.istore 8, 2) := by decide +kernel
theorem dL_way_81 : decode cL_way 81 = .ok (.iload 8, 2) := by decide +kernel
theorem dL_way_83 : decode cL_way 83 = .ok (.ifCond .eq 39, 3) := by decide +kernel
theorem dL_way_86 : decode cL_way 86 = .ok (.iload 5, 2) := by decide +kernel
theorem dL_way_88 : decode cL_way 88 = .ok (.ifCond .lt 29, 3) := by decide +kernel
theorem dL_way_91 : decode cL_way 91 = .ok (.aload_n 0, 1) := by decide +kernel
theorem dL_way_92 : decode cL_way 92 = .ok (.iload 7, 2) := by decide +kernel
theorem dL_way_94 : decode cL_way 94 = .ok (.iaload, 1) := by decide +kernel
theorem dL_way_95 : decode cL_way 95 = .ok (.iconst 1, 1) := by decide +kernel
theorem dL_way_96 : decode cL_way 96 = .ok (.isub, 1) := by decide +kernel
theorem dL_way_97 : decode cL_way 97 = .ok (.bipush 6, 2) := by decide +kernel
theorem dL_way_99 : decode cL_way 99 = .ok (.idiv, 1) := by decide +kernel
theorem dL_way_100 : decode cL_way 100 = .ok (.aload_n 0, 1) := by decide +kernel
theorem dL_way_101 : decode cL_way 101 = .ok (.bipush 6, 2) := by decide +kernel
theorem dL_way_103 : decode cL_way 103 = .ok (.iload_n 3, 1) := by decide +kernel
theorem dL_way_104 : decode cL_way 104 = .ok (.imul, 1) := by decide +kernel
theorem dL_way_105 : decode cL_way 105 = .ok (.iload 5, 2) := by decide +kernel
theorem dL_way_107 : decode cL_way 107 = .ok (.iadd, 1) := by decide +kernel
theorem dL_way_108 : decode cL_way 108 = .ok (.iaload, 1) := by decide +kernel
theorem dL_way_109 : decode cL_way 109 = .ok (.iconst 1, 1) := by decide +kernel
theorem dL_way_110 : decode cL_way 110 = .ok (.isub, 1) := by decide +kernel
theorem dL_way_111 : decode cL_way 111 = .ok (.bipush 6, 2) := by decide +kernel
theorem dL_way_113 : decode cL_way 113 = .ok (.idiv, 1) := by decide +kernel
theorem dL_way_114 : decode cL_way 114 = .ok (.if_icmp .gt 8, 3) := by decide +kernel
theorem dL_way_117 : decode cL_way 117 = .ok (.iload 6, 2) := by decide +kernel
theorem dL_way_119 : decode cL_way 119 = .ok (.goto 5, 3) := by decide +kernel
theorem dL_way_122 : decode cL_way 122 = .ok (.iload 5, 2) := by decide +kernel
theorem dL_way_124 : decode cL_way 124 = .ok (.istore 5, 2) := by decide +kernel
theorem dL_way_126 : decode cL_way 126 = .ok (.iinc 6 (-1), 3) := by decide +kernel
theorem dL_way_129 : decode cL_way 129 = .ok (.goto (-116), 3) := by decide +kernel
theorem dL_way_132 : decode cL_way 132 = .ok (.iload 5, 2) := by decide +kernel
theorem dL_way_134 : decode cL_way 134 = .ok (.ireturn, 1) := by decide +kernel
theorem dL_isOn_0 : decode cL_isOn 0 = .ok (.aload_n 1, 1) := by decide +kernel
theorem dL_isOn_1 : decode cL_isOn 1 = .ok (.iload 4, 2) := by decide +kernel
