theorem dL_changes_64 : decode cL_changes 64 = .ok (.iconst 0, 1) := by decide +kernel
theorem dL_changes_65 : decode cL_changes 65 = .ok (.istore 9, 2) := by decide +kernel
theorem dL_changes_67 : decode cL_changes 67 = .ok (.iload 9, 2) := by decide +kernel
theorem dL_changes_69 : decode cL_changes 69 = .ok (.bipush 36, 2) := by decide +kernel
theorem dL_changes_71 : decode cL_changes 71 = .ok (.if_icmp .ge 135, 3) := by decide +kernel
theorem dL_changes_74 : decode cL_changes 74 = .ok (.lload_n 3, 1) := by decide +kernel
theorem dL_changes_75 : decode cL_changes 75 = .ok (.iload 9, 2) := by decide +kernel
theorem dL_changes_77 : decode cL_changes 77 = .ok (.lshr, 1) := by decide +kernel
theorem dL_changes_78 : decode cL_changes 78 = .ok (.lconst 1, 1) := by decide +kernel
theorem dL_changes_79 : decode cL_changes 79 = .ok (.land, 1) := by decide +kernel
theorem dL_changes_80 : decode cL_changes 80 = .ok (.lconst 1, 1) := by decide +kernel
theorem dL_changes_81 : decode cL_changes 81 = .ok (.lcmp, 1) := by decide +kernel
theorem dL_changes_82 : decode cL_changes 82 = .ok (.ifCond .ne 118, 3) := by decide +kernel
theorem dL_changes_85 : decode cL_changes 85 = .ok (.aload_n 2, 1) := by decide +kernel
theorem dL_changes_86 : decode cL_changes 86 = .ok (.iload 9, 2) := by decide +kernel
theorem dL_changes_88 : decode cL_changes 88 = .ok (.iaload, 1) := by decide +kernel
theorem dL_changes_89 : decode cL_changes 89 = .ok (.iconst 1, 1) := by decide +kernel
theorem dL_changes_90 : decode cL_changes 90 = .ok (.isub, 1) := by decide +kernel
theorem dL_changes_91 : decode cL_changes 91 = .ok (.istore 10, 2) := by decide +kernel
theorem dL_changes_93 : decode cL_changes 93 = .ok (.iload 9, 2) := by decide +kernel
theorem dL_changes_95 : decode cL_changes 95 = .ok (.bipush 6, 2) := by decide +kernel
theorem dL_changes_97 : decode cL_changes 97 = .ok (.idiv, 1) := by decide +kernel
theorem dL_changes_98 : decode cL_changes 98 = .ok (.bipush 6, 2) := by decide +kernel
theorem dL_changes_100 : decode cL_changes 100 = .ok (.imul, 1) := by decide +kernel
theorem dL_changes_101 : decode cL_changes 101 = .ok (.iload 10, 2) := by decide +kernel
theorem dL_changes_103 : decode cL_changes 103 = .ok (.bipush 6, 2) := by decide +kernel
theorem dL_changes_105 : decode cL_changes 105 = .ok (.idiv, 1) := by decide +kernel
theorem dL_changes_106 : decode cL_changes 106 = .ok (.iadd, 1) := by decide +kernel
theorem dL_changes_107 : decode cL_changes 107 = .ok (.istore 11, 2) := by decide +kernel
theorem dL_changes_109 : decode cL_changes 109 = .ok (.iconst 2, 1) := by decide +kernel
theorem dL_changes_110 : decode cL_changes 110 = .ok (.aload_n 1, 1) := by decide +kernel
theorem dL_changes_111 : decode cL_changes 111 = .ok (.iload 9, 2) := by decide +kernel
theorem dL_changes_113 : decode cL_changes 113 = .ok (.iaload, 1) := by decide +kernel
theorem dL_changes_114 : decode cL_changes 114 = .ok (.iload 7, 2) := by decide +kernel
theorem dL_changes_116 : decode cL_changes 116 = .ok (.ishr, 1) := by decide +kernel
theorem dL_changes_117 : decode cL_changes 117 = .ok (.iconst 1, 1) := by decide +kernel
theorem dL_changes_118 : decode cL_changes 118 = .ok (.iand, 1) := by decide +kernel
theorem dL_changes_119 : decode cL_changes 119 = .ok (.isub, 1) := by decide +kernel
theorem dL_changes_120 : decode cL_changes 120 = .ok (.aload_n 1, 1) := by decide +kernel
theorem dL_changes_121 : decode cL_changes 121 = .ok (.iload 10, 2) := by decide +kernel
theorem dL_changes_123 : decode cL_changes 123 = .ok (.iaload, 1) := by decide +kernel
theorem dL_changes_124 : decode cL_changes 124 = .ok (.iload 7, 2) := by decide +kernel
theorem dL_changes_126 : decode cL_changes 126 = .ok (.ishr, 1) := by decide +kernel
theorem dL_changes_127 : decode cL_changes 127 = .ok (.iconst 1, 1) := by decide +kernel
theorem dL_changes_128 : decode cL_changes 128 = .ok (.iand, 1) := by decide +kernel
theorem dL_changes_129 : decode cL_changes 129 = .ok (.isub, 1) := by decide +kernel
theorem dL_changes_130 : decode cL_changes 130 = .ok (.istore 12, 2) := by decide +kernel
theorem dL_changes_132 : decode cL_changes 132 = .ok (.aload_n 0, 1) := by decide +kernel
theorem dL_changes_133 : decode cL_changes 133 = .ok (.iload 9, 2) := by decide +kernel
theorem dL_changes_135 : decode cL_changes 135 = .ok (.iaload, 1) := by decide +kernel
theorem dL_changes_136 : decode cL_changes 136 = .ok (.iload 7, 2) := by decide +kernel
theorem dL_changes_138 : decode cL_changes 138 = .ok (.if_icmp .eq 17, 3) := by decide +kernel
theorem dL_changes_141 : decode cL_changes 141 = .ok (.aload_n 0, 1) := by decide +kernel
theorem dL_changes_142 : decode cL_changes 142 = .ok (.iload 10, 2) := by decide +kernel
theorem dL_changes_144 : decode cL_changes 144 = .ok (.iaload, 1) := by decide +kernel
theorem dL_changes_145 : decode cL_changes 145 = .ok (.iload 7, 2) := by decide +kernel
theorem dL_changes_147 : decode cL_changes 147 = .ok (.if_icmp .eq 8, 3) := by decide +kernel
theorem dL_changes_150 : decode cL_changes 150 = .ok (.iload 12, 2) := by decide +kernel
theorem dL_changes_152 : decode cL_changes 152 = .ok (.goto 21, 3) := by decide +kernel
theorem dL_changes_155 : decode cL_changes 155 = .ok (.aload_n 0, 1) := by decide +kernel
theorem dL_changes_156 : decode cL_changes 156 = .ok (.iload 9, 2) := by decide +kernel
theorem dL_changes_158 : decode cL_changes 158 = .ok (.iaload, 1) := by decide +kernel
theorem dL_changes_159 : decode cL_changes 159 = .ok (.aload_n 0, 1) := by decide +kernel
theorem dL_changes_160 : decode cL_changes 160 = .ok (.iload 10, 2) := by decide +kernel
theorem dL_changes_162 : decode cL_changes 162 = .ok (.iaload, 1) := by decide +kernel
theorem dL_changes_163 : decode cL_changes 163 = .ok (.if_icmp .ne 7, 3) := by decide +kernel
theorem dL_changes_166 : decode cL_changes 166 = .ok (.iconst 0, 1) := by decide +kernel
theorem dL_changes_167 : decode cL_changes 167 = .ok (.goto 6, 3) := by decide +kernel
theorem dL_changes_170 : decode cL_changes 170 = .ok (.sipush 9999, 3) := by decide +kernel
theorem dL_changes_173 : decode cL_changes 173 = .ok (.istore 12, 2) := by decide +kernel
theorem dL_changes_175 : decode cL_changes 175 = .ok (.aload 8, 2) := by decide +kernel
theorem dL_changes_177 : decode cL_changes 177 = .ok (.iload 11, 2) := by decide +kernel
theorem dL_changes_179 : decode cL_changes 179 = .ok (.iload 12, 2) := by decide +kernel
theorem dL_changes_181 : decode cL_changes 181 = .ok (.aload 8, 2) := by decide +kernel
theorem dL_changes_183 : decode cL_changes 183 = .ok (.iload 11, 2) := by decide +kernel
theorem dL_changes_185 : decode cL_changes 185 = .ok (.iaload, 1) := by decide +kernel
theorem dL_changes_186 : decode cL_changes 186 = .ok (.if_icmp .ge 8, 3) := by decide +kernel
theorem dL_changes_189 : decode cL_changes 189 = .ok (.iload 12, 2) := by decide +kernel
theorem dL_changes_191 : decode cL_changes 191 = .ok (.goto 8, 3) := by decide +kernel
theorem dL_changes_194 : decode cL_changes 194 = .ok (.aload 8, 2) := by decide +kernel
theorem dL_changes_196 : decode cL_changes 196 = .ok (.iload 11, 2) := by decide +kernel
theorem dL_changes_198 : decode cL_changes 198 = .ok (.iaload, 1) := by decide +kernel
theorem dL_changes_199 : decode cL_changes 199 = .ok (.iastore, 1) := by decide +kernel
theorem dL_changes_200 : decode cL_changes 200 = .ok (.iinc 9 1, 3) := by decide +kernel
theorem dL_changes_203 : decode cL_changes 203 = .ok (.goto (-136), 3) := by decide +kernel
theorem dL_changes_206 : decode cL_changes 206 = .ok (.iconst 0, 1) := by decide +kernel
theorem dL_changes_207 : decode cL_changes 207 = .ok (.istore 9, 2) := by decide +kernel
theorem dL_changes_209 : decode cL_changes 209 = .ok (.iload 9, 2) := by decide +kernel
theorem dL_changes_211 : decode cL_changes 211 = .ok (.sipush 216, 3) := by decide +kernel
theorem dL_changes_214 : decode cL_changes 214 = .ok (.if_icmp .ge 119, 3) := by decide +kernel
theorem dL_changes_217 : decode cL_changes 217 = .ok (.aload 8, 2) := by decide +kernel
theorem dL_changes_219 : decode cL_changes 219 = .ok (.iload 9, 2) := by decide +kernel
theorem dL_changes_221 : decode cL_changes 221 = .ok (.bipush 6, 2) := by decide +kernel
theorem dL_changes_223 : decode cL_changes 223 = .ok (.idiv, 1) := by decide +kernel
theorem dL_changes_224 : decode cL_changes 224 = .ok (.bipush 6, 2) := by decide +kernel
theorem dL_changes_226 : decode cL_changes 226 = .ok (.irem, 1) := by decide +kernel
theorem dL_changes_227 : decode cL_changes 227 = .ok (.bipush 6, 2) := by decide +kernel
theorem dL_changes_229 : decode cL_changes 229 = .ok (.imul, 1) := by decide +kernel
theorem dL_changes_230 : decode cL_changes 230 = .ok (.iload 9, 2) := by decide +kernel
theorem dL_changes_232 : decode cL_changes 232 = .ok (.bipush 36, 2) := by decide +kernel
theorem dL_changes_234 : decode cL_changes 234 = .ok (.idiv, 1) := by decide +kernel
theorem dL_changes_235 : decode cL_changes 235 = .ok (.iadd, 1) := by decide +kernel
theorem dL_changes_236 : decode cL_changes 236 = .ok (.iaload, 1) := by decide +kernel
theorem dL_changes_237 : decode cL_changes 237 = .ok (.aload 8, 2) := by decide +kernel
theorem dL_changes_239 : decode cL_changes 239 = .ok (.iload 9, 2) := by decide +kernel
theorem dL_changes_241 : decode cL_changes 241 = .ok (.bipush 36, 2) := by decide +kernel
theorem dL_changes_243 : decode cL_changes 243 = .ok (.idiv, 1) := by decide +kernel
theorem dL_changes_244 : decode cL_changes 244 = .ok (.bipush 6, 2) := by decide +kernel
theorem dL_changes_246 : decode cL_changes 246 = .ok (.imul, 1) := by decide +kernel
theorem dL_changes_247 : decode cL_changes 247 = .ok (.iload 9, 2) := by decide +kernel
theorem dL_changes_249 : decode cL_changes 249 = .ok (.bipush 6, 2) := by decide +kernel
theorem dL_changes_251 : decode cL_changes 251 = .ok (.irem, 1) := by decide +kernel
theorem dL_changes_252 : decode cL_changes 252 = .ok (.iadd, 1) := by decide +kernel
theorem dL_changes_253 : decode cL_changes 253 = .ok (.iaload, 1) := by decide +kernel
theorem dL_changes_254 : decode cL_changes 254 = .ok (.iadd, 1) := by decide +kernel
theorem dL_changes_255 : decode cL_changes 255 = .ok (.istore 10, 2) := by decide +kernel
theorem dL_changes_257 : decode cL_changes 257 = .ok (.aload 8, 2) := by decide +kernel
theorem dL_changes_259 : decode cL_changes 259 = .ok (.iload 9, 2) := by decide +kernel
theorem dL_changes_261 : decode cL_changes 261 = .ok (.bipush 6, 2) := by decide +kernel
theorem dL_changes_263 : decode cL_changes 263 = .ok (.idiv, 1) := by decide +kernel
theorem dL_changes_264 : decode cL_changes 264 = .ok (.bipush 6, 2) := by decide +kernel
theorem dL_changes_266 : decode cL_changes 266 = .ok (.irem, 1) := by decide +kernel
theorem dL_changes_267 : decode cL_changes 267 = .ok (.bipush 6, 2) := by decide +kernel
theorem dL_changes_269 : decode cL_changes 269 = .ok (.imul, 1) := by decide +kernel
theorem dL_changes_270 : decode cL_changes 270 = .ok (.iload 9, 2) := by decide +kernel
theorem dL_changes_272 : decode cL_changes 272 = .ok (.bipush 6, 2) := by decide +kernel
theorem dL_changes_274 : decode cL_changes 274 = .ok (.irem, 1) := by decide +kernel
theorem dL_changes_275 : decode cL_changes 275 = .ok (.iadd, 1) := by decide +kernel
theorem dL_changes_276 : decode cL_changes 276 = .ok (.iload 10, 2) := by decide +kernel
theorem dL_changes_278 : decode cL_changes 278 = .ok (.aload 8, 2) := by decide +kernel
theorem dL_changes_280 : decode cL_changes 280 = .ok (.iload 9, 2) := by decide +kernel
theorem dL_changes_282 : decode cL_changes 282 = .ok (.bipush 6, 2) := by decide +kernel
theorem dL_changes_284 : decode cL_changes 284 = .ok (.idiv, 1) := by decide +kernel
theorem dL_changes_285 : decode cL_changes 285 = .ok (.bipush 6, 2) := by decide +kernel
theorem dL_changes_287 : decode cL_changes 287 = .ok (.irem, 1) := by decide +kernel
theorem dL_changes_288 : decode cL_changes 288 = .ok (.bipush 6, 2) := by decide +kernel
theorem dL_changes_290 : decode cL_changes 290 = .ok (.imul, 1) := by decide +kernel
theorem dL_changes_291 : decode cL_changes 291 = .ok (.iload 9, 2) := by decide +kernel
theorem dL_changes_293 : decode cL_changes 293 = .ok (.bipush 6, 2) := by decide +kernel
theorem dL_changes_295 : decode cL_changes 295 = .ok (.irem, 1) := by decide +kernel
theorem dL_changes_296 : decode cL_changes 296 = .ok (.iadd, 1) := by decide +kernel
theorem dL_changes_297 : decode cL_changes 297 = .ok (.iaload, 1) := by decide +kernel
theorem dL_changes_298 : decode cL_changes 298 = .ok (.if_icmp .ge 8, 3) := by decide +kernel
theorem dL_changes_301 : decode cL_changes 301 = .ok (.iload 10, 2) := by decide +kernel
theorem dL_changes_303 : decode cL_changes 303 = .ok (.goto 23, 3) := by decide +kernel
theorem dL_changes_306 : decode cL_changes 306 = .ok (.aload 8, 2) := by decide +kernel
theorem dL_changes_308 : decode cL_changes 308 = .ok (.iload 9, 2) := by decide +kernel
theorem dL_changes_310 : decode cL_changes 310 = .ok (.bipush 6, 2) := by decide +kernel
theorem dL_changes_312 : decode cL_changes 312 = .ok (.idiv, 1) := by decide +kernel
theorem dL_changes_313 : decode cL_changes 313 = .ok (.bipush 6, 2) := by decide +kernel
theorem dL_changes_315 : decode cL_changes 315 = .ok (.irem, 1) := by decide +kernel
theorem dL_changes_316 : decode cL_changes 316 = .ok (.bipush 6, 2) := by decide +kernel
theorem dL_changes_318 : decode cL_changes 318 = .ok (.imul, 1) := by decide +kernel
theorem dL_changes_319 : decode cL_changes 319 = .ok (.iload 9, 2) := by decide +kernel
theorem dL_changes_321 : decode cL_changes 321 = .ok (.bipush 6, 2) := by decide +kernel
theorem dL_changes_323 : decode cL_changes 323 = .ok (.irem, 1) := by decide +kernel
theorem dL_changes_324 : decode cL_changes 324 = .ok (.iadd, 1) := by decide +kernel
theorem dL_changes_325 : decode cL_changes 325 = .ok (.iaload, 1) := by decide +kernel
theorem dL_changes_326 : decode cL_changes 326 = .ok (.iastore, 1) := by decide +kernel
theorem dL_changes_327 : decode cL_changes 327 = .ok (.iinc 9 1, 3) := by decide +kernel
theorem dL_changes_330 : decode cL_changes 330 = .ok (.goto (-121), 3) := by decide +kernel
theorem dL_changes_333 : decode cL_changes 333 = .ok (.aload 8, 2) := by decide +kernel
theorem dL_changes_335 : decode cL_changes 335 = .ok (.iload 5, 2) := by decide +kernel
theorem dL_changes_337 : decode cL_changes 337 = .ok (.bipush 6, 2) := by decide +kernel
theorem dL_changes_339 : decode cL_changes 339 = .ok (.idiv, 1) := by decide +kernel
theorem dL_changes_340 : decode cL_changes 340 = .ok (.bipush 6, 2) := by decide +kernel
theorem dL_changes_342 : decode cL_changes 342 = .ok (.imul, 1) := by decide +kernel
theorem dL_changes_343 : decode cL_changes 343 = .ok (.iload 6, 2) := by decide +kernel
theorem dL_changes_345 : decode cL_changes 345 = .ok (.bipush 6, 2) := by decide +kernel
theorem dL_changes_347 : decode cL_changes 347 = .ok (.idiv, 1) := by decide +kernel
theorem dL_changes_348 : decode cL_changes 348 = .ok (.iadd, 1) := by decide +kernel
theorem dL_changes_349 : decode cL_changes 349 = .ok (.iaload, 1) := by decide +kernel
theorem dL_changes_350 : decode cL_changes 350 = .ok (.istore 9, 2) := by decide +kernel
theorem dL_changes_352 : decode cL_changes 352 = .ok (.iload 9, 2) := by decide +kernel
theorem dL_changes_354 : decode cL_changes 354 = .ok (.sipush 9000, 3) := by decide +kernel
theorem dL_changes_357 : decode cL_changes 357 = .ok (.if_icmp .le 7, 3) := by decide +kernel
theorem dL_changes_360 : decode cL_changes 360 = .ok (.iconst (-1), 1) := by decide +kernel
theorem dL_changes_361 : decode cL_changes 361 = .ok (.goto 5, 3) := by decide +kernel
theorem dL_changes_364 : decode cL_changes 364 = .ok (.iload 9, 2) := by decide +kernel
theorem dL_changes_366 : decode cL_changes 366 = .ok (.ireturn, 1) := by decide +kernel
theorem dL_does_0 : decode cL_does 0 = .ok (.iload_n 1, 1) := by decide +kernel
theorem dL_does_1 : decode cL_does 1 = .ok (.ifCond .ne 14, 3) := by decide +kernel
theorem dL_does_4 : decode cL_does 4 = .ok (.aload_n 0, 1) := by decide +kernel
theorem dL_does_5 : decode cL_does 5 = .ok (.iload_n 2, 1) := by decide +kernel
theorem dL_does_6 : decode cL_does 6 = .ok (.iload_n 3, 1) := by decide +kernel
theorem dL_does_7 : decode cL_does 7 = .ok (.iload 4, 2) := by decide +kernel
theorem dL_does_9 : decode cL_does 9 = .ok (.invokevirtual 45, 3) := by decide +kernel
theorem dL_does_12 : decode cL_does 12 = .ok (.goto 61, 3) := by decide +kernel
theorem dL_does_15 : decode cL_does 15 = .ok (.iload_n 1, 1) := by decide +kernel
theorem dL_does_16 : decode cL_does 16 = .ok (.iconst 1, 1) := by decide +kernel
theorem dL_does_17 : decode cL_does 17 = .ok (.if_icmp .ne 12, 3) := by decide +kernel
theorem dL_does_20 : decode cL_does 20 = .ok (.aload_n 0, 1) := by decide +kernel
theorem dL_does_21 : decode cL_does 21 = .ok (.iload_n 2, 1) := by decide +kernel
theorem dL_does_22 : decode cL_does 22 = .ok (.iload_n 3, 1) := by decide +kernel
theorem dL_does_23 : decode cL_does 23 = .ok (.invokevirtual 51, 3) := by decide +kernel
theorem dL_does_26 : decode cL_does 26 = .ok (.goto 47, 3) := by decide +kernel
theorem dL_does_29 : decode cL_does 29 = .ok (.iload_n 1, 1) := by decide +kernel
theorem dL_does_30 : decode cL_does 30 = .ok (.iconst 2, 1) := by decide +kernel
theorem dL_does_31 : decode cL_does 31 = .ok (.if_icmp .ne 20, 3) := by decide +kernel
theorem dL_does_34 : decode cL_does 34 = .ok (.aload_n 0, 1) := by decide +kernel
theorem dL_does_35 : decode cL_does 35 = .ok (.iload_n 2, 1) := by decide +kernel
theorem dL_does_36 : decode cL_does 36 = .ok (.iload_n 3, 1) := by decide +kernel
theorem dL_does_37 : decode cL_does 37 = .ok (.invokevirtual 55, 3) := by decide +kernel
theorem dL_does_40 : decode cL_does 40 = .ok (.ifCond .eq 7, 3) := by decide +kernel
theorem dL_does_43 : decode cL_does 43 = .ok (.iconst 1, 1) := by decide +kernel
theorem dL_does_44 : decode cL_does 44 = .ok (.goto 29, 3) := by decide +kernel
theorem dL_does_47 : decode cL_does 47 = .ok (.iconst 0, 1) := by decide +kernel
theorem dL_does_48 : decode cL_does 48 = .ok (.goto 25, 3) := by decide +kernel
theorem dL_does_51 : decode cL_does 51 = .ok (.iload_n 1, 1) := by decide +kernel
theorem dL_does_52 : decode cL_does 52 = .ok (.iconst 3, 1) := by decide +kernel
theorem dL_does_53 : decode cL_does 53 = .ok (.if_icmp .ne 14, 3) := by decide +kernel
theorem dL_does_56 : decode cL_does 56 = .ok (.aload_n 0, 1) := by decide +kernel
theorem dL_does_57 : decode cL_does 57 = .ok (.iload_n 2, 1) := by decide +kernel
theorem dL_does_58 : decode cL_does 58 = .ok (.iload_n 3, 1) := by decide +kernel
theorem dL_does_59 : decode cL_does 59 = .ok (.iload 4, 2) := by decide +kernel
theorem dL_does_61 : decode cL_does 61 = .ok (.invokevirtual 58, 3) := by decide +kernel
theorem dL_does_64 : decode cL_does 64 = .ok (.goto 9, 3) := by decide +kernel
theorem dL_does_67 : decode cL_does 67 = .ok (.aload_n 0, 1) := by decide +kernel
theorem dL_does_68 : decode cL_does 68 = .ok (.iload_n 2, 1) := by decide +kernel
theorem dL_does_69 : decode cL_does 69 = .ok (.iload_n 3, 1) := by decide +kernel
theorem dL_does_70 : decode cL_does 70 = .ok (.invokevirtual 61, 3) := by decide +kernel
theorem dL_does_73 : decode cL_does 73 = .ok (.ireturn, 1) := by decide +kernel
theorem dL_does_74 : decode cL_does 74 = .ok (.astore 5, 2) := by decide +kernel
theorem dL_does_76 : decode cL_does 76 = .ok (.bipush (-12), 2) := by decide +kernel
theorem dL_does_78 : decode cL_does 78 = .ok (.ireturn, 1) := by decide +kernel
theorem dL_does_79 : decode cL_does 79 = .ok (.astore 5, 2) := by decide +kernel
theorem dL_does_81 : decode cL_does 81 = .ok (.bipush (-14), 2) := by decide +kernel
theorem dL_does_83 : decode cL_does 83 = .ok (.ireturn, 1) := by decide +kernel
theorem dL_does_84 : decode cL_does 84 = .ok (.astore 5, 2) := by decide +kernel
theorem dL_does_86 : decode cL_does 86 = .ok (.bipush (-13), 2) := by decide +kernel
theorem dL_does_88 : decode cL_does 88 = .ok (.ireturn, 1) := by decide +kernel
theorem dL_tags_0 : decode cL_tags 0 = .ok (.aload_n 0, 1) := by decide +kernel
theorem dL_tags_1 : decode cL_tags 1 = .ok (.iload_n 1, 1) := by decide +kernel
theorem dL_tags_2 : decode cL_tags 2 = .ok (.iload_n 2, 1) := by decide +kernel
theorem dL_tags_3 : decode cL_tags 3 = .ok (.iload_n 3, 1) := by decide +kernel
theorem dL_tags_4 : decode cL_tags 4 = .ok (.iload 4, 2) := by decide +kernel
theorem dL_tags_6 : decode cL_tags 6 = .ok (.invokevirtual 70, 3) := by decide +kernel
theorem dL_tags_9 : decode cL_tags 9 = .ok (.ifCond .eq 7, 3) := by decide +kernel
theorem dL_tags_12 : decode cL_tags 12 = .ok (.iconst 1, 1) := by decide +kernel
theorem dL_tags_13 : decode cL_tags 13 = .ok (.goto 4, 3) := by decide +kernel
theorem dL_tags_16 : decode cL_tags 16 = .ok (.iconst 0, 1) := by decide +kernel
theorem dL_tags_17 : decode cL_tags 17 = .ok (.ireturn, 1) := by decide +kernel
theorem dL_tags_18 : decode cL_tags 18 = .ok (.astore 5, 2) := by decide +kernel
theorem dL_tags_20 : decode cL_tags 20 = .ok (.bipush (-13), 2) := by decide +kernel
theorem dL_tags_22 : decode cL_tags 22 = .ok (.ireturn, 1) := by decide +kernel
theorem dL_cables_0 : decode cL_cables 0 = .ok (.aload_n 0, 1) := by decide +kernel
theorem dL_cables_1 : decode cL_cables 1 = .ok (.iload_n 1, 1) := by decide +kernel
theorem dL_cables_2 : decode cL_cables 2 = .ok (.iload_n 2, 1) := by decide +kernel
theorem dL_cables_3 : decode cL_cables 3 = .ok (.iload_n 3, 1) := by decide +kernel
theorem dL_cables_4 : decode cL_cables 4 = .ok (.iload 4, 2) := by decide +kernel
