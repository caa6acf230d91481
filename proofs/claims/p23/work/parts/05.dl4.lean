theorem dL_cables_6 : decode cL_cables 6 = .ok (.iload 5, 2) := by decide +kernel
theorem dL_cables_8 : decode cL_cables 8 = .ok (.invokevirtual 74, 3) := by decide +kernel
theorem dL_cables_11 : decode cL_cables 11 = .ok (.ireturn, 1) := by decide +kernel
theorem dL_cables_12 : decode cL_cables 12 = .ok (.astore 6, 2) := by decide +kernel
theorem dL_cables_14 : decode cL_cables 14 = .ok (.bipush (-12), 2) := by decide +kernel
theorem dL_cables_16 : decode cL_cables 16 = .ok (.ireturn, 1) := by decide +kernel
theorem dL_cables_17 : decode cL_cables 17 = .ok (.astore 6, 2) := by decide +kernel
theorem dL_cables_19 : decode cL_cables 19 = .ok (.bipush (-13), 2) := by decide +kernel
theorem dL_cables_21 : decode cL_cables 21 = .ok (.ireturn, 1) := by decide +kernel
theorem dL_isNet_0 : decode cL_isNet 0 = .ok (.bipush 36, 2) := by decide +kernel
theorem dL_isNet_2 : decode cL_isNet 2 = .ok (.newarray .int, 2) := by decide +kernel
theorem dL_isNet_4 : decode cL_isNet 4 = .ok (.astore 8, 2) := by decide +kernel
theorem dL_isNet_6 : decode cL_isNet 6 = .ok (.bipush 6, 2) := by decide +kernel
theorem dL_isNet_8 : decode cL_isNet 8 = .ok (.newarray .int, 2) := by decide +kernel
theorem dL_isNet_10 : decode cL_isNet 10 = .ok (.astore 9, 2) := by decide +kernel
theorem dL_isNet_12 : decode cL_isNet 12 = .ok (.aload 4, 2) := by decide +kernel
theorem dL_isNet_14 : decode cL_isNet 14 = .ok (.aload 5, 2) := by decide +kernel
theorem dL_isNet_16 : decode cL_isNet 16 = .ok (.aload 8, 2) := by decide +kernel
theorem dL_isNet_18 : decode cL_isNet 18 = .ok (.invokestatic 17, 3) := by decide +kernel
theorem dL_isNet_21 : decode cL_isNet 21 = .ok (.aload_n 1, 1) := by decide +kernel
theorem dL_isNet_22 : decode cL_isNet 22 = .ok (.aload 4, 2) := by decide +kernel
theorem dL_isNet_24 : decode cL_isNet 24 = .ok (.aload 5, 2) := by decide +kernel
theorem dL_isNet_26 : decode cL_isNet 26 = .ok (.invokestatic 78, 3) := by decide +kernel
theorem dL_isNet_29 : decode cL_isNet 29 = .ok (.lstore 10, 2) := by decide +kernel
theorem dL_isNet_31 : decode cL_isNet 31 = .ok (.iconst 0, 1) := by decide +kernel
theorem dL_isNet_32 : decode cL_isNet 32 = .ok (.istore 12, 2) := by decide +kernel
theorem dL_isNet_34 : decode cL_isNet 34 = .ok (.iconst 1, 1) := by decide +kernel
theorem dL_isNet_35 : decode cL_isNet 35 = .ok (.istore 13, 2) := by decide +kernel
theorem dL_isNet_37 : decode cL_isNet 37 = .ok (.iconst 0, 1) := by decide +kernel
theorem dL_isNet_38 : decode cL_isNet 38 = .ok (.istore 14, 2) := by decide +kernel
theorem dL_isNet_40 : decode cL_isNet 40 = .ok (.iload 14, 2) := by decide +kernel
theorem dL_isNet_42 : decode cL_isNet 42 = .ok (.bipush 36, 2) := by decide +kernel
theorem dL_isNet_44 : decode cL_isNet 44 = .ok (.if_icmp .ge 312, 3) := by decide +kernel
theorem dL_isNet_47 : decode cL_isNet 47 = .ok (.iload 13, 2) := by decide +kernel
theorem dL_isNet_49 : decode cL_isNet 49 = .ok (.ifCond .eq 307, 3) := by decide +kernel
theorem dL_isNet_52 : decode cL_isNet 52 = .ok (.iload 12, 2) := by decide +kernel
theorem dL_isNet_54 : decode cL_isNet 54 = .ok (.aload 6, 2) := by decide +kernel
theorem dL_isNet_56 : decode cL_isNet 56 = .ok (.iload 14, 2) := by decide +kernel
theorem dL_isNet_58 : decode cL_isNet 58 = .ok (.iaload, 1) := by decide +kernel
theorem dL_isNet_59 : decode cL_isNet 59 = .ok (.ifCond .le 20, 3) := by decide +kernel
theorem dL_isNet_62 : decode cL_isNet 62 = .ok (.aload 6, 2) := by decide +kernel
theorem dL_isNet_64 : decode cL_isNet 64 = .ok (.iload 14, 2) := by decide +kernel
theorem dL_isNet_66 : decode cL_isNet 66 = .ok (.iaload, 1) := by decide +kernel
theorem dL_isNet_67 : decode cL_isNet 67 = .ok (.aload 4, 2) := by decide +kernel
theorem dL_isNet_69 : decode cL_isNet 69 = .ok (.iload 14, 2) := by decide +kernel
theorem dL_isNet_71 : decode cL_isNet 71 = .ok (.iaload, 1) := by decide +kernel
theorem dL_isNet_72 : decode cL_isNet 72 = .ok (.if_icmp .eq 7, 3) := by decide +kernel
theorem dL_isNet_75 : decode cL_isNet 75 = .ok (.iconst 1, 1) := by decide +kernel
theorem dL_isNet_76 : decode cL_isNet 76 = .ok (.goto 4, 3) := by decide +kernel
theorem dL_isNet_79 : decode cL_isNet 79 = .ok (.iconst 0, 1) := by decide +kernel
theorem dL_isNet_80 : decode cL_isNet 80 = .ok (.iadd, 1) := by decide +kernel
theorem dL_isNet_81 : decode cL_isNet 81 = .ok (.istore 12, 2) := by decide +kernel
theorem dL_isNet_83 : decode cL_isNet 83 = .ok (.iload 14, 2) := by decide +kernel
theorem dL_isNet_85 : decode cL_isNet 85 = .ok (.iload 7, 2) := by decide +kernel
theorem dL_isNet_87 : decode cL_isNet 87 = .ok (.iadd, 1) := by decide +kernel
theorem dL_isNet_88 : decode cL_isNet 88 = .ok (.iconst 5, 1) := by decide +kernel
theorem dL_isNet_89 : decode cL_isNet 89 = .ok (.irem, 1) := by decide +kernel
theorem dL_isNet_90 : decode cL_isNet 90 = .ok (.ifCond .ne 260, 3) := by decide +kernel
theorem dL_isNet_93 : decode cL_isNet 93 = .ok (.iconst 1, 1) := by decide +kernel
theorem dL_isNet_94 : decode cL_isNet 94 = .ok (.iload 7, 2) := by decide +kernel
theorem dL_isNet_96 : decode cL_isNet 96 = .ok (.iconst 5, 1) := by decide +kernel
theorem dL_isNet_97 : decode cL_isNet 97 = .ok (.idiv, 1) := by decide +kernel
theorem dL_isNet_98 : decode cL_isNet 98 = .ok (.iload 14, 2) := by decide +kernel
theorem dL_isNet_100 : decode cL_isNet 100 = .ok (.iadd, 1) := by decide +kernel
theorem dL_isNet_101 : decode cL_isNet 101 = .ok (.iconst 4, 1) := by decide +kernel
theorem dL_isNet_102 : decode cL_isNet 102 = .ok (.irem, 1) := by decide +kernel
theorem dL_isNet_103 : decode cL_isNet 103 = .ok (.iadd, 1) := by decide +kernel
theorem dL_isNet_104 : decode cL_isNet 104 = .ok (.istore 15, 2) := by decide +kernel
theorem dL_isNet_106 : decode cL_isNet 106 = .ok (.aload 4, 2) := by decide +kernel
theorem dL_isNet_108 : decode cL_isNet 108 = .ok (.iload 14, 2) := by decide +kernel
theorem dL_isNet_110 : decode cL_isNet 110 = .ok (.iaload, 1) := by decide +kernel
theorem dL_isNet_111 : decode cL_isNet 111 = .ok (.iconst 1, 1) := by decide +kernel
theorem dL_isNet_112 : decode cL_isNet 112 = .ok (.isub, 1) := by decide +kernel
theorem dL_isNet_113 : decode cL_isNet 113 = .ok (.istore 16, 2) := by decide +kernel
theorem dL_isNet_115 : decode cL_isNet 115 = .ok (.aload 4, 2) := by decide +kernel
theorem dL_isNet_117 : decode cL_isNet 117 = .ok (.iload 14, 2) := by decide +kernel
theorem dL_isNet_119 : decode cL_isNet 119 = .ok (.iaload, 1) := by decide +kernel
theorem dL_isNet_120 : decode cL_isNet 120 = .ok (.ifCond .ne 7, 3) := by decide +kernel
theorem dL_isNet_123 : decode cL_isNet 123 = .ok (.iconst 0, 1) := by decide +kernel
theorem dL_isNet_124 : decode cL_isNet 124 = .ok (.goto 16, 3) := by decide +kernel
theorem dL_isNet_127 : decode cL_isNet 127 = .ok (.aload_n 2, 1) := by decide +kernel
theorem dL_isNet_128 : decode cL_isNet 128 = .ok (.aload_n 3, 1) := by decide +kernel
theorem dL_isNet_129 : decode cL_isNet 129 = .ok (.aload 4, 2) := by decide +kernel
theorem dL_isNet_131 : decode cL_isNet 131 = .ok (.iload 14, 2) := by decide +kernel
theorem dL_isNet_133 : decode cL_isNet 133 = .ok (.iconst 1, 1) := by decide +kernel
theorem dL_isNet_134 : decode cL_isNet 134 = .ok (.iload 15, 2) := by decide +kernel
theorem dL_isNet_136 : decode cL_isNet 136 = .ok (.ishl, 1) := by decide +kernel
theorem dL_isNet_137 : decode cL_isNet 137 = .ok (.invokestatic 25, 3) := by decide +kernel
theorem dL_isNet_140 : decode cL_isNet 140 = .ok (.istore 17, 2) := by decide +kernel
theorem dL_isNet_142 : decode cL_isNet 142 = .ok (.iconst (-1), 1) := by decide +kernel
theorem dL_isNet_143 : decode cL_isNet 143 = .ok (.istore 18, 2) := by decide +kernel
theorem dL_isNet_145 : decode cL_isNet 145 = .ok (.iconst 1, 1) := by decide +kernel
theorem dL_isNet_146 : decode cL_isNet 146 = .ok (.istore 19, 2) := by decide +kernel
theorem dL_isNet_148 : decode cL_isNet 148 = .ok (.iload 19, 2) := by decide +kernel
theorem dL_isNet_150 : decode cL_isNet 150 = .ok (.bipush 16, 2) := by decide +kernel
theorem dL_isNet_152 : decode cL_isNet 152 = .ok (.if_icmp .ge 29, 3) := by decide +kernel
theorem dL_isNet_155 : decode cL_isNet 155 = .ok (.iload 17, 2) := by decide +kernel
theorem dL_isNet_157 : decode cL_isNet 157 = .ok (.iload 19, 2) := by decide +kernel
theorem dL_isNet_159 : decode cL_isNet 159 = .ok (.ishr, 1) := by decide +kernel
theorem dL_isNet_160 : decode cL_isNet 160 = .ok (.iconst 1, 1) := by decide +kernel
theorem dL_isNet_161 : decode cL_isNet 161 = .ok (.iand, 1) := by decide +kernel
theorem dL_isNet_162 : decode cL_isNet 162 = .ok (.iconst 1, 1) := by decide +kernel
theorem dL_isNet_163 : decode cL_isNet 163 = .ok (.if_icmp .ne 8, 3) := by decide +kernel
theorem dL_isNet_166 : decode cL_isNet 166 = .ok (.iload 19, 2) := by decide +kernel
theorem dL_isNet_168 : decode cL_isNet 168 = .ok (.goto 5, 3) := by decide +kernel
theorem dL_isNet_171 : decode cL_isNet 171 = .ok (.iload 18, 2) := by decide +kernel
theorem dL_isNet_173 : decode cL_isNet 173 = .ok (.istore 18, 2) := by decide +kernel
theorem dL_isNet_175 : decode cL_isNet 175 = .ok (.iinc 19 1, 3) := by decide +kernel
theorem dL_isNet_178 : decode cL_isNet 178 = .ok (.goto (-30), 3) := by decide +kernel
theorem dL_isNet_181 : decode cL_isNet 181 = .ok (.aload_n 0, 1) := by decide +kernel
theorem dL_isNet_182 : decode cL_isNet 182 = .ok (.iload 14, 2) := by decide +kernel
theorem dL_isNet_184 : decode cL_isNet 184 = .ok (.bipush 6, 2) := by decide +kernel
theorem dL_isNet_186 : decode cL_isNet 186 = .ok (.idiv, 1) := by decide +kernel
theorem dL_isNet_187 : decode cL_isNet 187 = .ok (.iload 14, 2) := by decide +kernel
theorem dL_isNet_189 : decode cL_isNet 189 = .ok (.bipush 6, 2) := by decide +kernel
theorem dL_isNet_191 : decode cL_isNet 191 = .ok (.irem, 1) := by decide +kernel
theorem dL_isNet_192 : decode cL_isNet 192 = .ok (.invokevirtual 82, 3) := by decide +kernel
theorem dL_isNet_195 : decode cL_isNet 195 = .ok (.aload 4, 2) := by decide +kernel
theorem dL_isNet_197 : decode cL_isNet 197 = .ok (.iload 14, 2) := by decide +kernel
theorem dL_isNet_199 : decode cL_isNet 199 = .ok (.iaload, 1) := by decide +kernel
theorem dL_isNet_200 : decode cL_isNet 200 = .ok (.ifCond .ne 7, 3) := by decide +kernel
theorem dL_isNet_203 : decode cL_isNet 203 = .ok (.iconst (-1), 1) := by decide +kernel
theorem dL_isNet_204 : decode cL_isNet 204 = .ok (.goto 17, 3) := by decide +kernel
theorem dL_isNet_207 : decode cL_isNet 207 = .ok (.iload 16, 2) := by decide +kernel
theorem dL_isNet_209 : decode cL_isNet 209 = .ok (.bipush 6, 2) := by decide +kernel
theorem dL_isNet_211 : decode cL_isNet 211 = .ok (.idiv, 1) := by decide +kernel
theorem dL_isNet_212 : decode cL_isNet 212 = .ok (.bipush 10, 2) := by decide +kernel
theorem dL_isNet_214 : decode cL_isNet 214 = .ok (.imul, 1) := by decide +kernel
theorem dL_isNet_215 : decode cL_isNet 215 = .ok (.iload 16, 2) := by decide +kernel
theorem dL_isNet_217 : decode cL_isNet 217 = .ok (.bipush 6, 2) := by decide +kernel
theorem dL_isNet_219 : decode cL_isNet 219 = .ok (.irem, 1) := by decide +kernel
theorem dL_isNet_220 : decode cL_isNet 220 = .ok (.iadd, 1) := by decide +kernel
theorem dL_isNet_221 : decode cL_isNet 221 = .ok (.if_icmp .ne 126, 3) := by decide +kernel
theorem dL_isNet_224 : decode cL_isNet 224 = .ok (.aload_n 0, 1) := by decide +kernel
theorem dL_isNet_225 : decode cL_isNet 225 = .ok (.iconst 2, 1) := by decide +kernel
theorem dL_isNet_226 : decode cL_isNet 226 = .ok (.iload 14, 2) := by decide +kernel
theorem dL_isNet_228 : decode cL_isNet 228 = .ok (.bipush 6, 2) := by decide +kernel
theorem dL_isNet_230 : decode cL_isNet 230 = .ok (.idiv, 1) := by decide +kernel
theorem dL_isNet_231 : decode cL_isNet 231 = .ok (.iload 14, 2) := by decide +kernel
theorem dL_isNet_233 : decode cL_isNet 233 = .ok (.bipush 6, 2) := by decide +kernel
theorem dL_isNet_235 : decode cL_isNet 235 = .ok (.irem, 1) := by decide +kernel
theorem dL_isNet_236 : decode cL_isNet 236 = .ok (.iconst 0, 1) := by decide +kernel
theorem dL_isNet_237 : decode cL_isNet 237 = .ok (.invokestatic 85, 3) := by decide +kernel
theorem dL_isNet_240 : decode cL_isNet 240 = .ok (.aload 4, 2) := by decide +kernel
theorem dL_isNet_242 : decode cL_isNet 242 = .ok (.iload 14, 2) := by decide +kernel
theorem dL_isNet_244 : decode cL_isNet 244 = .ok (.iaload, 1) := by decide +kernel
theorem dL_isNet_245 : decode cL_isNet 245 = .ok (.ifCond .ne 8, 3) := by decide +kernel
theorem dL_isNet_248 : decode cL_isNet 248 = .ok (.bipush (-14), 2) := by decide +kernel
theorem dL_isNet_250 : decode cL_isNet 250 = .ok (.goto 11, 3) := by decide +kernel
theorem dL_isNet_253 : decode cL_isNet 253 = .ok (.lload 10, 2) := by decide +kernel
theorem dL_isNet_255 : decode cL_isNet 255 = .ok (.iload 14, 2) := by decide +kernel
theorem dL_isNet_257 : decode cL_isNet 257 = .ok (.lshr, 1) := by decide +kernel
theorem dL_isNet_258 : decode cL_isNet 258 = .ok (.lconst 1, 1) := by decide +kernel
theorem dL_isNet_259 : decode cL_isNet 259 = .ok (.land, 1) := by decide +kernel
theorem dL_isNet_260 : decode cL_isNet 260 = .ok (.l2i, 1) := by decide +kernel
theorem dL_isNet_261 : decode cL_isNet 261 = .ok (.if_icmp .ne 86, 3) := by decide +kernel
theorem dL_isNet_264 : decode cL_isNet 264 = .ok (.aload_n 0, 1) := by decide +kernel
theorem dL_isNet_265 : decode cL_isNet 265 = .ok (.iconst 3, 1) := by decide +kernel
theorem dL_isNet_266 : decode cL_isNet 266 = .ok (.iload 14, 2) := by decide +kernel
theorem dL_isNet_268 : decode cL_isNet 268 = .ok (.bipush 6, 2) := by decide +kernel
theorem dL_isNet_270 : decode cL_isNet 270 = .ok (.idiv, 1) := by decide +kernel
theorem dL_isNet_271 : decode cL_isNet 271 = .ok (.iload 14, 2) := by decide +kernel
theorem dL_isNet_273 : decode cL_isNet 273 = .ok (.bipush 6, 2) := by decide +kernel
theorem dL_isNet_275 : decode cL_isNet 275 = .ok (.irem, 1) := by decide +kernel
theorem dL_isNet_276 : decode cL_isNet 276 = .ok (.iload 15, 2) := by decide +kernel
theorem dL_isNet_278 : decode cL_isNet 278 = .ok (.invokestatic 85, 3) := by decide +kernel
theorem dL_isNet_281 : decode cL_isNet 281 = .ok (.aload 4, 2) := by decide +kernel
theorem dL_isNet_283 : decode cL_isNet 283 = .ok (.iload 14, 2) := by decide +kernel
theorem dL_isNet_285 : decode cL_isNet 285 = .ok (.iaload, 1) := by decide +kernel
theorem dL_isNet_286 : decode cL_isNet 286 = .ok (.ifCond .ne 8, 3) := by decide +kernel
theorem dL_isNet_289 : decode cL_isNet 289 = .ok (.bipush (-14), 2) := by decide +kernel
theorem dL_isNet_291 : decode cL_isNet 291 = .ok (.goto 5, 3) := by decide +kernel
theorem dL_isNet_294 : decode cL_isNet 294 = .ok (.iload 18, 2) := by decide +kernel
theorem dL_isNet_296 : decode cL_isNet 296 = .ok (.if_icmp .ne 51, 3) := by decide +kernel
theorem dL_isNet_299 : decode cL_isNet 299 = .ok (.aload_n 0, 1) := by decide +kernel
theorem dL_isNet_300 : decode cL_isNet 300 = .ok (.iconst 4, 1) := by decide +kernel
theorem dL_isNet_301 : decode cL_isNet 301 = .ok (.iload 14, 2) := by decide +kernel
theorem dL_isNet_303 : decode cL_isNet 303 = .ok (.bipush 6, 2) := by decide +kernel
theorem dL_isNet_305 : decode cL_isNet 305 = .ok (.idiv, 1) := by decide +kernel
theorem dL_isNet_306 : decode cL_isNet 306 = .ok (.iload 14, 2) := by decide +kernel
theorem dL_isNet_308 : decode cL_isNet 308 = .ok (.bipush 6, 2) := by decide +kernel
theorem dL_isNet_310 : decode cL_isNet 310 = .ok (.irem, 1) := by decide +kernel
theorem dL_isNet_311 : decode cL_isNet 311 = .ok (.iconst 0, 1) := by decide +kernel
theorem dL_isNet_312 : decode cL_isNet 312 = .ok (.invokestatic 85, 3) := by decide +kernel
theorem dL_isNet_315 : decode cL_isNet 315 = .ok (.aload 4, 2) := by decide +kernel
theorem dL_isNet_317 : decode cL_isNet 317 = .ok (.iload 14, 2) := by decide +kernel
theorem dL_isNet_319 : decode cL_isNet 319 = .ok (.iaload, 1) := by decide +kernel
theorem dL_isNet_320 : decode cL_isNet 320 = .ok (.ifCond .ne 8, 3) := by decide +kernel
theorem dL_isNet_323 : decode cL_isNet 323 = .ok (.bipush (-14), 2) := by decide +kernel
theorem dL_isNet_325 : decode cL_isNet 325 = .ok (.goto 15, 3) := by decide +kernel
theorem dL_isNet_328 : decode cL_isNet 328 = .ok (.aload_n 3, 1) := by decide +kernel
theorem dL_isNet_329 : decode cL_isNet 329 = .ok (.iload 14, 2) := by decide +kernel
theorem dL_isNet_331 : decode cL_isNet 331 = .ok (.iaload, 1) := by decide +kernel
theorem dL_isNet_332 : decode cL_isNet 332 = .ok (.aload_n 3, 1) := by decide +kernel
theorem dL_isNet_333 : decode cL_isNet 333 = .ok (.iload 16, 2) := by decide +kernel
theorem dL_isNet_335 : decode cL_isNet 335 = .ok (.iaload, 1) := by decide +kernel
theorem dL_isNet_336 : decode cL_isNet 336 = .ok (.ixor, 1) := by decide +kernel
theorem dL_isNet_337 : decode cL_isNet 337 = .ok (.invokestatic 37, 3) := by decide +kernel
theorem dL_isNet_340 : decode cL_isNet 340 = .ok (.if_icmp .ne 7, 3) := by decide +kernel
theorem dL_isNet_343 : decode cL_isNet 343 = .ok (.iconst 1, 1) := by decide +kernel
theorem dL_isNet_344 : decode cL_isNet 344 = .ok (.goto 4, 3) := by decide +kernel
theorem dL_isNet_347 : decode cL_isNet 347 = .ok (.iconst 0, 1) := by decide +kernel
theorem dL_isNet_348 : decode cL_isNet 348 = .ok (.istore 13, 2) := by decide +kernel
theorem dL_isNet_350 : decode cL_isNet 350 = .ok (.iinc 14 1, 3) := by decide +kernel
theorem dL_isNet_353 : decode cL_isNet 353 = .ok (.goto (-313), 3) := by decide +kernel
theorem dL_isNet_356 : decode cL_isNet 356 = .ok (.iconst 0, 1) := by decide +kernel
theorem dL_isNet_357 : decode cL_isNet 357 = .ok (.istore 14, 2) := by decide +kernel
theorem dL_isNet_359 : decode cL_isNet 359 = .ok (.iload 14, 2) := by decide +kernel
theorem dL_isNet_361 : decode cL_isNet 361 = .ok (.bipush 6, 2) := by decide +kernel
theorem dL_isNet_363 : decode cL_isNet 363 = .ok (.if_icmp .ge 81, 3) := by decide +kernel
theorem dL_isNet_366 : decode cL_isNet 366 = .ok (.iload 13, 2) := by decide +kernel
theorem dL_isNet_368 : decode cL_isNet 368 = .ok (.ifCond .eq 76, 3) := by decide +kernel
theorem dL_isNet_371 : decode cL_isNet 371 = .ok (.aload 8, 2) := by decide +kernel
theorem dL_isNet_373 : decode cL_isNet 373 = .ok (.iload 14, 2) := by decide +kernel
theorem dL_isNet_375 : decode cL_isNet 375 = .ok (.invokestatic 7, 3) := by decide +kernel
theorem dL_isNet_378 : decode cL_isNet 378 = .ok (.istore 15, 2) := by decide +kernel
theorem dL_isNet_380 : decode cL_isNet 380 = .ok (.aload_n 0, 1) := by decide +kernel
theorem dL_isNet_381 : decode cL_isNet 381 = .ok (.iload 14, 2) := by decide +kernel
theorem dL_isNet_383 : decode cL_isNet 383 = .ok (.invokevirtual 89, 3) := by decide +kernel
theorem dL_isNet_386 : decode cL_isNet 386 = .ok (.iload 15, 2) := by decide +kernel
theorem dL_isNet_388 : decode cL_isNet 388 = .ok (.if_icmp .ne 47, 3) := by decide +kernel
theorem dL_isNet_391 : decode cL_isNet 391 = .ok (.aload_n 0, 1) := by decide +kernel
theorem dL_isNet_392 : decode cL_isNet 392 = .ok (.iload 14, 2) := by decide +kernel
theorem dL_isNet_394 : decode cL_isNet 394 = .ok (.invokevirtual 91, 3) := by decide +kernel
theorem dL_isNet_397 : decode cL_isNet 397 = .ok (.aload 8, 2) := by decide +kernel
theorem dL_isNet_399 : decode cL_isNet 399 = .ok (.bipush 6, 2) := by decide +kernel
theorem dL_isNet_401 : decode cL_isNet 401 = .ok (.iload 14, 2) := by decide +kernel
theorem dL_isNet_403 : decode cL_isNet 403 = .ok (.imul, 1) := by decide +kernel
theorem dL_isNet_404 : decode cL_isNet 404 = .ok (.iload 15, 2) := by decide +kernel
theorem dL_isNet_406 : decode cL_isNet 406 = .ok (.iadd, 1) := by decide +kernel
theorem dL_isNet_407 : decode cL_isNet 407 = .ok (.iaload, 1) := by decide +kernel
theorem dL_isNet_408 : decode cL_isNet 408 = .ok (.if_icmp .ne 27, 3) := by decide +kernel
theorem dL_isNet_411 : decode cL_isNet 411 = .ok (.aload_n 0, 1) := by decide +kernel
theorem dL_isNet_412 : decode cL_isNet 412 = .ok (.iload 14, 2) := by decide +kernel
theorem dL_isNet_414 : decode cL_isNet 414 = .ok (.invokevirtual 94, 3) := by decide +kernel
theorem dL_isNet_417 : decode cL_isNet 417 = .ok (.aload 4, 2) := by decide +kernel
theorem dL_isNet_419 : decode cL_isNet 419 = .ok (.aload 5, 2) := by decide +kernel
theorem dL_isNet_421 : decode cL_isNet 421 = .ok (.aload 8, 2) := by decide +kernel
theorem dL_isNet_423 : decode cL_isNet 423 = .ok (.iload 14, 2) := by decide +kernel
theorem dL_isNet_425 : decode cL_isNet 425 = .ok (.invokestatic 13, 3) := by decide +kernel
theorem dL_isNet_428 : decode cL_isNet 428 = .ok (.if_icmp .ne 7, 3) := by decide +kernel
theorem dL_isNet_431 : decode cL_isNet 431 = .ok (.iconst 1, 1) := by decide +kernel
theorem dL_isNet_432 : decode cL_isNet 432 = .ok (.goto 4, 3) := by decide +kernel
theorem dL_isNet_435 : decode cL_isNet 435 = .ok (.iconst 0, 1) := by decide +kernel
theorem dL_isNet_436 : decode cL_isNet 436 = .ok (.istore 13, 2) := by decide +kernel
theorem dL_isNet_438 : decode cL_isNet 438 = .ok (.iinc 14 1, 3) := by decide +kernel
theorem dL_isNet_441 : decode cL_isNet 441 = .ok (.goto (-82), 3) := by decide +kernel
theorem dL_isNet_444 : decode cL_isNet 444 = .ok (.iconst 0, 1) := by decide +kernel
theorem dL_isNet_445 : decode cL_isNet 445 = .ok (.istore 14, 2) := by decide +kernel
theorem dL_isNet_447 : decode cL_isNet 447 = .ok (.iload 14, 2) := by decide +kernel
