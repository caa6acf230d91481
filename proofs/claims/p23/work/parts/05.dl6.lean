theorem dL_law_90 : decode cL_law 90 = .ok (.ldc 134, 2) := by decide +kernel
theorem dL_law_92 : decode cL_law 92 = .ok (.iload 9, 2) := by decide +kernel
theorem dL_law_94 : decode cL_law 94 = .ok (.imul, 1) := by decide +kernel
theorem dL_law_95 : decode cL_law 95 = .ok (.iload 9, 2) := by decide +kernel
theorem dL_law_97 : decode cL_law 97 = .ok (.imul, 1) := by decide +kernel
theorem dL_law_98 : decode cL_law 98 = .ok (.sipush 9011, 3) := by decide +kernel
theorem dL_law_101 : decode cL_law 101 = .ok (.iload 9, 2) := by decide +kernel
theorem dL_law_103 : decode cL_law 103 = .ok (.imul, 1) := by decide +kernel
theorem dL_law_104 : decode cL_law 104 = .ok (.iadd, 1) := by decide +kernel
theorem dL_law_105 : decode cL_law 105 = .ok (.bipush 83, 2) := by decide +kernel
theorem dL_law_107 : decode cL_law 107 = .ok (.iadd, 1) := by decide +kernel
theorem dL_law_108 : decode cL_law 108 = .ok (.ldc 133, 2) := by decide +kernel
theorem dL_law_110 : decode cL_law 110 = .ok (.iand, 1) := by decide +kernel
theorem dL_law_111 : decode cL_law 111 = .ok (.istore 10, 2) := by decide +kernel
theorem dL_law_113 : decode cL_law 113 = .ok (.iload 9, 2) := by decide +kernel
theorem dL_law_115 : decode cL_law 115 = .ok (.bipush 6, 2) := by decide +kernel
theorem dL_law_117 : decode cL_law 117 = .ok (.if_icmp .ge 8, 3) := by decide +kernel
theorem dL_law_120 : decode cL_law 120 = .ok (.bipush 9, 2) := by decide +kernel
theorem dL_law_122 : decode cL_law 122 = .ok (.goto 8, 3) := by decide +kernel
theorem dL_law_125 : decode cL_law 125 = .ok (.iload 10, 2) := by decide +kernel
theorem dL_law_127 : decode cL_law 127 = .ok (.bipush 18, 2) := by decide +kernel
theorem dL_law_129 : decode cL_law 129 = .ok (.irem, 1) := by decide +kernel
theorem dL_law_130 : decode cL_law 130 = .ok (.istore 11, 2) := by decide +kernel
theorem dL_law_132 : decode cL_law 132 = .ok (.iload 10, 2) := by decide +kernel
theorem dL_law_134 : decode cL_law 134 = .ok (.bipush 18, 2) := by decide +kernel
theorem dL_law_136 : decode cL_law 136 = .ok (.idiv, 1) := by decide +kernel
theorem dL_law_137 : decode cL_law 137 = .ok (.istore 12, 2) := by decide +kernel
theorem dL_law_139 : decode cL_law 139 = .ok (.iload 12, 2) := by decide +kernel
theorem dL_law_141 : decode cL_law 141 = .ok (.bipush 36, 2) := by decide +kernel
theorem dL_law_143 : decode cL_law 143 = .ok (.irem, 1) := by decide +kernel
theorem dL_law_144 : decode cL_law 144 = .ok (.istore 13, 2) := by decide +kernel
theorem dL_law_146 : decode cL_law 146 = .ok (.iload 12, 2) := by decide +kernel
theorem dL_law_148 : decode cL_law 148 = .ok (.bipush 36, 2) := by decide +kernel
theorem dL_law_150 : decode cL_law 150 = .ok (.idiv, 1) := by decide +kernel
theorem dL_law_151 : decode cL_law 151 = .ok (.bipush 36, 2) := by decide +kernel
theorem dL_law_153 : decode cL_law 153 = .ok (.irem, 1) := by decide +kernel
theorem dL_law_154 : decode cL_law 154 = .ok (.istore 14, 2) := by decide +kernel
theorem dL_law_156 : decode cL_law 156 = .ok (.iconst 1, 1) := by decide +kernel
theorem dL_law_157 : decode cL_law 157 = .ok (.iload 12, 2) := by decide +kernel
theorem dL_law_159 : decode cL_law 159 = .ok (.sipush 1296, 3) := by decide +kernel
theorem dL_law_162 : decode cL_law 162 = .ok (.idiv, 1) := by decide +kernel
theorem dL_law_163 : decode cL_law 163 = .ok (.iconst 5, 1) := by decide +kernel
theorem dL_law_164 : decode cL_law 164 = .ok (.irem, 1) := by decide +kernel
theorem dL_law_165 : decode cL_law 165 = .ok (.ifCond .ne 15, 3) := by decide +kernel
theorem dL_law_168 : decode cL_law 168 = .ok (.iload 12, 2) := by decide +kernel
theorem dL_law_170 : decode cL_law 170 = .ok (.sipush 6480, 3) := by decide +kernel
theorem dL_law_173 : decode cL_law 173 = .ok (.idiv, 1) := by decide +kernel
theorem dL_law_174 : decode cL_law 174 = .ok (.bipush 15, 2) := by decide +kernel
theorem dL_law_176 : decode cL_law 176 = .ok (.irem, 1) := by decide +kernel
theorem dL_law_177 : decode cL_law 177 = .ok (.goto 11, 3) := by decide +kernel
theorem dL_law_180 : decode cL_law 180 = .ok (.iload 12, 2) := by decide +kernel
theorem dL_law_182 : decode cL_law 182 = .ok (.sipush 6480, 3) := by decide +kernel
theorem dL_law_185 : decode cL_law 185 = .ok (.idiv, 1) := by decide +kernel
theorem dL_law_186 : decode cL_law 186 = .ok (.iconst 4, 1) := by decide +kernel
theorem dL_law_187 : decode cL_law 187 = .ok (.irem, 1) := by decide +kernel
theorem dL_law_188 : decode cL_law 188 = .ok (.iadd, 1) := by decide +kernel
theorem dL_law_189 : decode cL_law 189 = .ok (.istore 15, 2) := by decide +kernel
theorem dL_law_191 : decode cL_law 191 = .ok (.iload 11, 2) := by decide +kernel
theorem dL_law_193 : decode cL_law 193 = .ok (.iconst 4, 1) := by decide +kernel
theorem dL_law_194 : decode cL_law 194 = .ok (.if_icmp .ge 101, 3) := by decide +kernel
theorem dL_law_197 : decode cL_law 197 = .ok (.iload 12, 2) := by decide +kernel
theorem dL_law_199 : decode cL_law 199 = .ok (.bipush 7, 2) := by decide +kernel
theorem dL_law_201 : decode cL_law 201 = .ok (.irem, 1) := by decide +kernel
theorem dL_law_202 : decode cL_law 202 = .ok (.ifCond .ne 7, 3) := by decide +kernel
theorem dL_law_205 : decode cL_law 205 = .ok (.iconst 0, 1) := by decide +kernel
theorem dL_law_206 : decode cL_law 206 = .ok (.goto 5, 3) := by decide +kernel
theorem dL_law_209 : decode cL_law 209 = .ok (.iload 15, 2) := by decide +kernel
theorem dL_law_211 : decode cL_law 211 = .ok (.istore 16, 2) := by decide +kernel
theorem dL_law_213 : decode cL_law 213 = .ok (.aload 4, 2) := by decide +kernel
theorem dL_law_215 : decode cL_law 215 = .ok (.iload 13, 2) := by decide +kernel
theorem dL_law_217 : decode cL_law 217 = .ok (.iaload, 1) := by decide +kernel
theorem dL_law_218 : decode cL_law 218 = .ok (.iload 16, 2) := by decide +kernel
theorem dL_law_220 : decode cL_law 220 = .ok (.ishr, 1) := by decide +kernel
theorem dL_law_221 : decode cL_law 221 = .ok (.iconst 1, 1) := by decide +kernel
theorem dL_law_222 : decode cL_law 222 = .ok (.iand, 1) := by decide +kernel
theorem dL_law_223 : decode cL_law 223 = .ok (.ifCond .ne 7, 3) := by decide +kernel
theorem dL_law_226 : decode cL_law 226 = .ok (.iconst 1, 1) := by decide +kernel
theorem dL_law_227 : decode cL_law 227 = .ok (.goto 4, 3) := by decide +kernel
theorem dL_law_230 : decode cL_law 230 = .ok (.iconst 0, 1) := by decide +kernel
theorem dL_law_231 : decode cL_law 231 = .ok (.istore 17, 2) := by decide +kernel
theorem dL_law_233 : decode cL_law 233 = .ok (.aload_n 1, 1) := by decide +kernel
theorem dL_law_234 : decode cL_law 234 = .ok (.iconst 0, 1) := by decide +kernel
theorem dL_law_235 : decode cL_law 235 = .ok (.iload 13, 2) := by decide +kernel
theorem dL_law_237 : decode cL_law 237 = .ok (.bipush 6, 2) := by decide +kernel
theorem dL_law_239 : decode cL_law 239 = .ok (.idiv, 1) := by decide +kernel
theorem dL_law_240 : decode cL_law 240 = .ok (.iload 13, 2) := by decide +kernel
theorem dL_law_242 : decode cL_law 242 = .ok (.bipush 6, 2) := by decide +kernel
theorem dL_law_244 : decode cL_law 244 = .ok (.irem, 1) := by decide +kernel
theorem dL_law_245 : decode cL_law 245 = .ok (.iload 16, 2) := by decide +kernel
theorem dL_law_247 : decode cL_law 247 = .ok (.invokestatic 85, 3) := by decide +kernel
theorem dL_law_250 : decode cL_law 250 = .ok (.iload 17, 2) := by decide +kernel
theorem dL_law_252 : decode cL_law 252 = .ok (.ifCond .eq 10, 3) := by decide +kernel
theorem dL_law_255 : decode cL_law 255 = .ok (.aload_n 3, 1) := by decide +kernel
theorem dL_law_256 : decode cL_law 256 = .ok (.iload 13, 2) := by decide +kernel
theorem dL_law_258 : decode cL_law 258 = .ok (.iaload, 1) := by decide +kernel
theorem dL_law_259 : decode cL_law 259 = .ok (.goto 5, 3) := by decide +kernel
theorem dL_law_262 : decode cL_law 262 = .ok (.bipush (-13), 2) := by decide +kernel
theorem dL_law_264 : decode cL_law 264 = .ok (.if_icmp .ne 7, 3) := by decide +kernel
theorem dL_law_267 : decode cL_law 267 = .ok (.iconst 1, 1) := by decide +kernel
theorem dL_law_268 : decode cL_law 268 = .ok (.goto 4, 3) := by decide +kernel
theorem dL_law_271 : decode cL_law 271 = .ok (.iconst 0, 1) := by decide +kernel
theorem dL_law_272 : decode cL_law 272 = .ok (.istore 8, 2) := by decide +kernel
theorem dL_law_274 : decode cL_law 274 = .ok (.aload_n 3, 1) := by decide +kernel
theorem dL_law_275 : decode cL_law 275 = .ok (.iload 13, 2) := by decide +kernel
theorem dL_law_277 : decode cL_law 277 = .ok (.iload 17, 2) := by decide +kernel
theorem dL_law_279 : decode cL_law 279 = .ok (.ifCond .eq 8, 3) := by decide +kernel
theorem dL_law_282 : decode cL_law 282 = .ok (.iload 16, 2) := by decide +kernel
theorem dL_law_284 : decode cL_law 284 = .ok (.goto 7, 3) := by decide +kernel
theorem dL_law_287 : decode cL_law 287 = .ok (.aload_n 3, 1) := by decide +kernel
theorem dL_law_288 : decode cL_law 288 = .ok (.iload 13, 2) := by decide +kernel
theorem dL_law_290 : decode cL_law 290 = .ok (.iaload, 1) := by decide +kernel
theorem dL_law_291 : decode cL_law 291 = .ok (.iastore, 1) := by decide +kernel
theorem dL_law_292 : decode cL_law 292 = .ok (.goto 601, 3) := by decide +kernel
theorem dL_law_295 : decode cL_law 295 = .ok (.iload 11, 2) := by decide +kernel
theorem dL_law_297 : decode cL_law 297 = .ok (.bipush 9, 2) := by decide +kernel
theorem dL_law_299 : decode cL_law 299 = .ok (.if_icmp .ge 141, 3) := by decide +kernel
theorem dL_law_302 : decode cL_law 302 = .ok (.iload 12, 2) := by decide +kernel
theorem dL_law_304 : decode cL_law 304 = .ok (.iconst 5, 1) := by decide +kernel
theorem dL_law_305 : decode cL_law 305 = .ok (.irem, 1) := by decide +kernel
theorem dL_law_306 : decode cL_law 306 = .ok (.ifCond .le 7, 3) := by decide +kernel
theorem dL_law_309 : decode cL_law 309 = .ok (.iconst 1, 1) := by decide +kernel
theorem dL_law_310 : decode cL_law 310 = .ok (.goto 4, 3) := by decide +kernel
theorem dL_law_313 : decode cL_law 313 = .ok (.iconst 0, 1) := by decide +kernel
theorem dL_law_314 : decode cL_law 314 = .ok (.istore 16, 2) := by decide +kernel
theorem dL_law_316 : decode cL_law 316 = .ok (.aload 4, 2) := by decide +kernel
theorem dL_law_318 : decode cL_law 318 = .ok (.iload 13, 2) := by decide +kernel
theorem dL_law_320 : decode cL_law 320 = .ok (.iaload, 1) := by decide +kernel
theorem dL_law_321 : decode cL_law 321 = .ok (.iload 15, 2) := by decide +kernel
theorem dL_law_323 : decode cL_law 323 = .ok (.ishr, 1) := by decide +kernel
theorem dL_law_324 : decode cL_law 324 = .ok (.iconst 1, 1) := by decide +kernel
theorem dL_law_325 : decode cL_law 325 = .ok (.iand, 1) := by decide +kernel
theorem dL_law_326 : decode cL_law 326 = .ok (.istore 17, 2) := by decide +kernel
theorem dL_law_328 : decode cL_law 328 = .ok (.iload 16, 2) := by decide +kernel
theorem dL_law_330 : decode cL_law 330 = .ok (.ifCond .eq 12, 3) := by decide +kernel
theorem dL_law_333 : decode cL_law 333 = .ok (.aload_n 3, 1) := by decide +kernel
theorem dL_law_334 : decode cL_law 334 = .ok (.iload 13, 2) := by decide +kernel
theorem dL_law_336 : decode cL_law 336 = .ok (.iaload, 1) := by decide +kernel
theorem dL_law_337 : decode cL_law 337 = .ok (.iload 15, 2) := by decide +kernel
theorem dL_law_339 : decode cL_law 339 = .ok (.if_icmp .eq 7, 3) := by decide +kernel
theorem dL_law_342 : decode cL_law 342 = .ok (.iconst 1, 1) := by decide +kernel
theorem dL_law_343 : decode cL_law 343 = .ok (.goto 4, 3) := by decide +kernel
theorem dL_law_346 : decode cL_law 346 = .ok (.iconst 0, 1) := by decide +kernel
theorem dL_law_347 : decode cL_law 347 = .ok (.istore 18, 2) := by decide +kernel
theorem dL_law_349 : decode cL_law 349 = .ok (.aload_n 1, 1) := by decide +kernel
theorem dL_law_350 : decode cL_law 350 = .ok (.iload 13, 2) := by decide +kernel
theorem dL_law_352 : decode cL_law 352 = .ok (.bipush 6, 2) := by decide +kernel
theorem dL_law_354 : decode cL_law 354 = .ok (.idiv, 1) := by decide +kernel
theorem dL_law_355 : decode cL_law 355 = .ok (.iload 13, 2) := by decide +kernel
theorem dL_law_357 : decode cL_law 357 = .ok (.bipush 6, 2) := by decide +kernel
theorem dL_law_359 : decode cL_law 359 = .ok (.irem, 1) := by decide +kernel
theorem dL_law_360 : decode cL_law 360 = .ok (.iload 15, 2) := by decide +kernel
theorem dL_law_362 : decode cL_law 362 = .ok (.iload 16, 2) := by decide +kernel
theorem dL_law_364 : decode cL_law 364 = .ok (.invokestatic 135, 3) := by decide +kernel
theorem dL_law_367 : decode cL_law 367 = .ok (.iload 18, 2) := by decide +kernel
theorem dL_law_369 : decode cL_law 369 = .ok (.ifCond .eq 8, 3) := by decide +kernel
theorem dL_law_372 : decode cL_law 372 = .ok (.iload 17, 2) := by decide +kernel
theorem dL_law_374 : decode cL_law 374 = .ok (.goto 5, 3) := by decide +kernel
theorem dL_law_377 : decode cL_law 377 = .ok (.bipush (-13), 2) := by decide +kernel
theorem dL_law_379 : decode cL_law 379 = .ok (.if_icmp .ne 7, 3) := by decide +kernel
theorem dL_law_382 : decode cL_law 382 = .ok (.iconst 1, 1) := by decide +kernel
theorem dL_law_383 : decode cL_law 383 = .ok (.goto 4, 3) := by decide +kernel
theorem dL_law_386 : decode cL_law 386 = .ok (.iconst 0, 1) := by decide +kernel
theorem dL_law_387 : decode cL_law 387 = .ok (.istore 8, 2) := by decide +kernel
theorem dL_law_389 : decode cL_law 389 = .ok (.aload 4, 2) := by decide +kernel
theorem dL_law_391 : decode cL_law 391 = .ok (.iload 13, 2) := by decide +kernel
theorem dL_law_393 : decode cL_law 393 = .ok (.iload 18, 2) := by decide +kernel
theorem dL_law_395 : decode cL_law 395 = .ok (.ifCond .ne 11, 3) := by decide +kernel
theorem dL_law_398 : decode cL_law 398 = .ok (.aload 4, 2) := by decide +kernel
theorem dL_law_400 : decode cL_law 400 = .ok (.iload 13, 2) := by decide +kernel
theorem dL_law_402 : decode cL_law 402 = .ok (.iaload, 1) := by decide +kernel
theorem dL_law_403 : decode cL_law 403 = .ok (.goto 33, 3) := by decide +kernel
theorem dL_law_406 : decode cL_law 406 = .ok (.iload 16, 2) := by decide +kernel
theorem dL_law_408 : decode cL_law 408 = .ok (.ifCond .eq 16, 3) := by decide +kernel
theorem dL_law_411 : decode cL_law 411 = .ok (.aload 4, 2) := by decide +kernel
theorem dL_law_413 : decode cL_law 413 = .ok (.iload 13, 2) := by decide +kernel
theorem dL_law_415 : decode cL_law 415 = .ok (.iaload, 1) := by decide +kernel
theorem dL_law_416 : decode cL_law 416 = .ok (.iconst 1, 1) := by decide +kernel
theorem dL_law_417 : decode cL_law 417 = .ok (.iload 15, 2) := by decide +kernel
theorem dL_law_419 : decode cL_law 419 = .ok (.ishl, 1) := by decide +kernel
theorem dL_law_420 : decode cL_law 420 = .ok (.ior, 1) := by decide +kernel
theorem dL_law_421 : decode cL_law 421 = .ok (.goto 15, 3) := by decide +kernel
theorem dL_law_424 : decode cL_law 424 = .ok (.aload 4, 2) := by decide +kernel
theorem dL_law_426 : decode cL_law 426 = .ok (.iload 13, 2) := by decide +kernel
theorem dL_law_428 : decode cL_law 428 = .ok (.iaload, 1) := by decide +kernel
theorem dL_law_429 : decode cL_law 429 = .ok (.iconst 1, 1) := by decide +kernel
theorem dL_law_430 : decode cL_law 430 = .ok (.iload 15, 2) := by decide +kernel
theorem dL_law_432 : decode cL_law 432 = .ok (.ishl, 1) := by decide +kernel
theorem dL_law_433 : decode cL_law 433 = .ok (.iconst (-1), 1) := by decide +kernel
theorem dL_law_434 : decode cL_law 434 = .ok (.ixor, 1) := by decide +kernel
theorem dL_law_435 : decode cL_law 435 = .ok (.iand, 1) := by decide +kernel
theorem dL_law_436 : decode cL_law 436 = .ok (.iastore, 1) := by decide +kernel
theorem dL_law_437 : decode cL_law 437 = .ok (.goto 456, 3) := by decide +kernel
theorem dL_law_440 : decode cL_law 440 = .ok (.iload 11, 2) := by decide +kernel
theorem dL_law_442 : decode cL_law 442 = .ok (.bipush 14, 2) := by decide +kernel
theorem dL_law_444 : decode cL_law 444 = .ok (.if_icmp .ge 158, 3) := by decide +kernel
theorem dL_law_447 : decode cL_law 447 = .ok (.iconst 1, 1) := by decide +kernel
theorem dL_law_448 : decode cL_law 448 = .ok (.iload 12, 2) := by decide +kernel
theorem dL_law_450 : decode cL_law 450 = .ok (.sipush 1296, 3) := by decide +kernel
theorem dL_law_453 : decode cL_law 453 = .ok (.idiv, 1) := by decide +kernel
theorem dL_law_454 : decode cL_law 454 = .ok (.iload 12, 2) := by decide +kernel
theorem dL_law_456 : decode cL_law 456 = .ok (.iconst 2, 1) := by decide +kernel
theorem dL_law_457 : decode cL_law 457 = .ok (.irem, 1) := by decide +kernel
theorem dL_law_458 : decode cL_law 458 = .ok (.ifCond .ne 8, 3) := by decide +kernel
theorem dL_law_461 : decode cL_law 461 = .ok (.bipush 20, 2) := by decide +kernel
theorem dL_law_463 : decode cL_law 463 = .ok (.goto 4, 3) := by decide +kernel
theorem dL_law_466 : decode cL_law 466 = .ok (.iconst 3, 1) := by decide +kernel
theorem dL_law_467 : decode cL_law 467 = .ok (.irem, 1) := by decide +kernel
theorem dL_law_468 : decode cL_law 468 = .ok (.iadd, 1) := by decide +kernel
theorem dL_law_469 : decode cL_law 469 = .ok (.istore 16, 2) := by decide +kernel
theorem dL_law_471 : decode cL_law 471 = .ok (.iload 13, 2) := by decide +kernel
theorem dL_law_473 : decode cL_law 473 = .ok (.bipush 6, 2) := by decide +kernel
theorem dL_law_475 : decode cL_law 475 = .ok (.idiv, 1) := by decide +kernel
theorem dL_law_476 : decode cL_law 476 = .ok (.iload 14, 2) := by decide +kernel
theorem dL_law_478 : decode cL_law 478 = .ok (.bipush 6, 2) := by decide +kernel
theorem dL_law_480 : decode cL_law 480 = .ok (.idiv, 1) := by decide +kernel
theorem dL_law_481 : decode cL_law 481 = .ok (.if_icmp .ne 8, 3) := by decide +kernel
theorem dL_law_484 : decode cL_law 484 = .ok (.bipush (-12), 2) := by decide +kernel
theorem dL_law_486 : decode cL_law 486 = .ok (.goto 29, 3) := by decide +kernel
theorem dL_law_489 : decode cL_law 489 = .ok (.aload 5, 2) := by decide +kernel
theorem dL_law_491 : decode cL_law 491 = .ok (.iload 13, 2) := by decide +kernel
theorem dL_law_493 : decode cL_law 493 = .ok (.iaload, 1) := by decide +kernel
theorem dL_law_494 : decode cL_law 494 = .ok (.ifCond .gt 11, 3) := by decide +kernel
theorem dL_law_497 : decode cL_law 497 = .ok (.aload 5, 2) := by decide +kernel
theorem dL_law_499 : decode cL_law 499 = .ok (.iload 14, 2) := by decide +kernel
theorem dL_law_501 : decode cL_law 501 = .ok (.iaload, 1) := by decide +kernel
theorem dL_law_502 : decode cL_law 502 = .ok (.ifCond .le 8, 3) := by decide +kernel
theorem dL_law_505 : decode cL_law 505 = .ok (.bipush (-13), 2) := by decide +kernel
theorem dL_law_507 : decode cL_law 507 = .ok (.goto 8, 3) := by decide +kernel
theorem dL_law_510 : decode cL_law 510 = .ok (.aload_n 2, 1) := by decide +kernel
theorem dL_law_511 : decode cL_law 511 = .ok (.iconst 0, 1) := by decide +kernel
theorem dL_law_512 : decode cL_law 512 = .ok (.iaload, 1) := by decide +kernel
theorem dL_law_513 : decode cL_law 513 = .ok (.iconst 1, 1) := by decide +kernel
theorem dL_law_514 : decode cL_law 514 = .ok (.iadd, 1) := by decide +kernel
theorem dL_law_515 : decode cL_law 515 = .ok (.istore 17, 2) := by decide +kernel
theorem dL_law_517 : decode cL_law 517 = .ok (.iload 17, 2) := by decide +kernel
theorem dL_law_519 : decode cL_law 519 = .ok (.ifCond .le 42, 3) := by decide +kernel
theorem dL_law_522 : decode cL_law 522 = .ok (.aload 5, 2) := by decide +kernel
theorem dL_law_524 : decode cL_law 524 = .ok (.iload 13, 2) := by decide +kernel
theorem dL_law_526 : decode cL_law 526 = .ok (.iload 14, 2) := by decide +kernel
theorem dL_law_528 : decode cL_law 528 = .ok (.iconst 1, 1) := by decide +kernel
theorem dL_law_529 : decode cL_law 529 = .ok (.iadd, 1) := by decide +kernel
theorem dL_law_530 : decode cL_law 530 = .ok (.iastore, 1) := by decide +kernel
theorem dL_law_531 : decode cL_law 531 = .ok (.aload 5, 2) := by decide +kernel
theorem dL_law_533 : decode cL_law 533 = .ok (.iload 14, 2) := by decide +kernel
theorem dL_law_535 : decode cL_law 535 = .ok (.iload 13, 2) := by decide +kernel
theorem dL_law_537 : decode cL_law 537 = .ok (.iconst 1, 1) := by decide +kernel
theorem dL_law_538 : decode cL_law 538 = .ok (.iadd, 1) := by decide +kernel
theorem dL_law_539 : decode cL_law 539 = .ok (.iastore, 1) := by decide +kernel
theorem dL_law_540 : decode cL_law 540 = .ok (.aload 6, 2) := by decide +kernel
theorem dL_law_542 : decode cL_law 542 = .ok (.iload 13, 2) := by decide +kernel
