theorem dL_puzzles_343 : decode cL_puzzles 343 = .ok (.aload_n 0, 1) := by decide +kernel
theorem dL_puzzles_344 : decode cL_puzzles 344 = .ok (.iload 4, 2) := by decide +kernel
theorem dL_puzzles_346 : decode cL_puzzles 346 = .ok (.iload 8, 2) := by decide +kernel
theorem dL_puzzles_348 : decode cL_puzzles 348 = .ok (.invokestatic 114, 3) := by decide +kernel
theorem dL_puzzles_351 : decode cL_puzzles 351 = .ok (.bipush 100, 2) := by decide +kernel
theorem dL_puzzles_353 : decode cL_puzzles 353 = .ok (.if_icmp .lt 17, 3) := by decide +kernel
theorem dL_puzzles_356 : decode cL_puzzles 356 = .ok (.aload_n 0, 1) := by decide +kernel
theorem dL_puzzles_357 : decode cL_puzzles 357 = .ok (.iload 4, 2) := by decide +kernel
theorem dL_puzzles_359 : decode cL_puzzles 359 = .ok (.iload 8, 2) := by decide +kernel
theorem dL_puzzles_361 : decode cL_puzzles 361 = .ok (.invokestatic 114, 3) := by decide +kernel
theorem dL_puzzles_364 : decode cL_puzzles 364 = .ok (.sipush 3000, 3) := by decide +kernel
theorem dL_puzzles_367 : decode cL_puzzles 367 = .ok (.if_icmp .le 5, 3) := by decide +kernel
theorem dL_puzzles_370 : decode cL_puzzles 370 = .ok (.iconst 0, 1) := by decide +kernel
theorem dL_puzzles_371 : decode cL_puzzles 371 = .ok (.ireturn, 1) := by decide +kernel
theorem dL_puzzles_372 : decode cL_puzzles 372 = .ok (.iinc 8 1, 3) := by decide +kernel
theorem dL_puzzles_375 : decode cL_puzzles 375 = .ok (.goto (-38), 3) := by decide +kernel
theorem dL_puzzles_378 : decode cL_puzzles 378 = .ok (.iload 7, 2) := by decide +kernel
theorem dL_puzzles_380 : decode cL_puzzles 380 = .ok (.iload 5, 2) := by decide +kernel
theorem dL_puzzles_382 : decode cL_puzzles 382 = .ok (.iconst (-1), 1) := by decide +kernel
theorem dL_puzzles_383 : decode cL_puzzles 383 = .ok (.if_icmp .ne 7, 3) := by decide +kernel
theorem dL_puzzles_386 : decode cL_puzzles 386 = .ok (.iconst 1, 1) := by decide +kernel
theorem dL_puzzles_387 : decode cL_puzzles 387 = .ok (.goto 4, 3) := by decide +kernel
theorem dL_puzzles_390 : decode cL_puzzles 390 = .ok (.iconst 0, 1) := by decide +kernel
theorem dL_puzzles_391 : decode cL_puzzles 391 = .ok (.if_icmp .eq 5, 3) := by decide +kernel
theorem dL_puzzles_394 : decode cL_puzzles 394 = .ok (.iconst 0, 1) := by decide +kernel
theorem dL_puzzles_395 : decode cL_puzzles 395 = .ok (.ireturn, 1) := by decide +kernel
theorem dL_puzzles_396 : decode cL_puzzles 396 = .ok (.iinc 4 1, 3) := by decide +kernel
theorem dL_puzzles_399 : decode cL_puzzles 399 = .ok (.goto (-259), 3) := by decide +kernel
theorem dL_puzzles_402 : decode cL_puzzles 402 = .ok (.iload_n 3, 1) := by decide +kernel
theorem dL_puzzles_403 : decode cL_puzzles 403 = .ok (.ifCond .lt 75, 3) := by decide +kernel
theorem dL_puzzles_406 : decode cL_puzzles 406 = .ok (.iload_n 3, 1) := by decide +kernel
theorem dL_puzzles_407 : decode cL_puzzles 407 = .ok (.bipush 40, 2) := by decide +kernel
theorem dL_puzzles_409 : decode cL_puzzles 409 = .ok (.if_icmp .gt 69, 3) := by decide +kernel
theorem dL_puzzles_412 : decode cL_puzzles 412 = .ok (.aload_n 0, 1) := by decide +kernel
theorem dL_puzzles_413 : decode cL_puzzles 413 = .ok (.iload_n 3, 1) := by decide +kernel
theorem dL_puzzles_414 : decode cL_puzzles 414 = .ok (.invokestatic 108, 3) := by decide +kernel
theorem dL_puzzles_417 : decode cL_puzzles 417 = .ok (.ldc 38, 2) := by decide +kernel
theorem dL_puzzles_419 : decode cL_puzzles 419 = .ok (.if_icmp .ne 59, 3) := by decide +kernel
theorem dL_puzzles_422 : decode cL_puzzles 422 = .ok (.aload_n 0, 1) := by decide +kernel
theorem dL_puzzles_423 : decode cL_puzzles 423 = .ok (.iconst (-1), 1) := by decide +kernel
theorem dL_puzzles_424 : decode cL_puzzles 424 = .ok (.invokestatic 110, 3) := by decide +kernel
theorem dL_puzzles_427 : decode cL_puzzles 427 = .ok (.ldc 38, 2) := by decide +kernel
theorem dL_puzzles_429 : decode cL_puzzles 429 = .ok (.if_icmp .ne 49, 3) := by decide +kernel
theorem dL_puzzles_432 : decode cL_puzzles 432 = .ok (.aload_n 0, 1) := by decide +kernel
theorem dL_puzzles_433 : decode cL_puzzles 433 = .ok (.aload_n 2, 1) := by decide +kernel
theorem dL_puzzles_434 : decode cL_puzzles 434 = .ok (.iconst 0, 1) := by decide +kernel
theorem dL_puzzles_435 : decode cL_puzzles 435 = .ok (.iaload, 1) := by decide +kernel
theorem dL_puzzles_436 : decode cL_puzzles 436 = .ok (.invokestatic 112, 3) := by decide +kernel
theorem dL_puzzles_439 : decode cL_puzzles 439 = .ok (.ldc 38, 2) := by decide +kernel
theorem dL_puzzles_441 : decode cL_puzzles 441 = .ok (.if_icmp .ne 37, 3) := by decide +kernel
theorem dL_puzzles_444 : decode cL_puzzles 444 = .ok (.aload_n 0, 1) := by decide +kernel
theorem dL_puzzles_445 : decode cL_puzzles 445 = .ok (.aload_n 2, 1) := by decide +kernel
theorem dL_puzzles_446 : decode cL_puzzles 446 = .ok (.iconst 0, 1) := by decide +kernel
theorem dL_puzzles_447 : decode cL_puzzles 447 = .ok (.iaload, 1) := by decide +kernel
theorem dL_puzzles_448 : decode cL_puzzles 448 = .ok (.iconst 5, 1) := by decide +kernel
theorem dL_puzzles_449 : decode cL_puzzles 449 = .ok (.invokestatic 114, 3) := by decide +kernel
theorem dL_puzzles_452 : decode cL_puzzles 452 = .ok (.ldc 38, 2) := by decide +kernel
theorem dL_puzzles_454 : decode cL_puzzles 454 = .ok (.if_icmp .ne 24, 3) := by decide +kernel
theorem dL_puzzles_457 : decode cL_puzzles 457 = .ok (.aload_n 2, 1) := by decide +kernel
theorem dL_puzzles_458 : decode cL_puzzles 458 = .ok (.iconst 0, 1) := by decide +kernel
theorem dL_puzzles_459 : decode cL_puzzles 459 = .ok (.iaload, 1) := by decide +kernel
theorem dL_puzzles_460 : decode cL_puzzles 460 = .ok (.ifCond .eq 14, 3) := by decide +kernel
theorem dL_puzzles_463 : decode cL_puzzles 463 = .ok (.aload_n 0, 1) := by decide +kernel
theorem dL_puzzles_464 : decode cL_puzzles 464 = .ok (.iconst 0, 1) := by decide +kernel
theorem dL_puzzles_465 : decode cL_puzzles 465 = .ok (.iconst 5, 1) := by decide +kernel
theorem dL_puzzles_466 : decode cL_puzzles 466 = .ok (.invokestatic 114, 3) := by decide +kernel
theorem dL_puzzles_469 : decode cL_puzzles 469 = .ok (.ldc 18, 2) := by decide +kernel
theorem dL_puzzles_471 : decode cL_puzzles 471 = .ok (.if_icmp .ne 7, 3) := by decide +kernel
theorem dL_puzzles_474 : decode cL_puzzles 474 = .ok (.iconst 1, 1) := by decide +kernel
theorem dL_puzzles_475 : decode cL_puzzles 475 = .ok (.goto 4, 3) := by decide +kernel
theorem dL_puzzles_478 : decode cL_puzzles 478 = .ok (.iconst 0, 1) := by decide +kernel
theorem dL_puzzles_479 : decode cL_puzzles 479 = .ok (.ireturn, 1) := by decide +kernel
theorem dL_line_0 : decode cL_line 0 = .ok (.aload_n 0, 1) := by decide +kernel
theorem dL_line_1 : decode cL_line 1 = .ok (.iload_n 1, 1) := by decide +kernel
theorem dL_line_2 : decode cL_line 2 = .ok (.iload_n 2, 1) := by decide +kernel
theorem dL_line_3 : decode cL_line 3 = .ok (.invokestatic 116, 3) := by decide +kernel
theorem dL_line_6 : decode cL_line 6 = .ok (.istore_n 3, 1) := by decide +kernel
theorem dL_line_7 : decode cL_line 7 = .ok (.aload_n 0, 1) := by decide +kernel
theorem dL_line_8 : decode cL_line 8 = .ok (.iload_n 1, 1) := by decide +kernel
theorem dL_line_9 : decode cL_line 9 = .ok (.iload_n 2, 1) := by decide +kernel
theorem dL_line_10 : decode cL_line 10 = .ok (.invokestatic 118, 3) := by decide +kernel
theorem dL_line_13 : decode cL_line 13 = .ok (.istore 4, 2) := by decide +kernel
theorem dL_line_15 : decode cL_line 15 = .ok (.aload_n 0, 1) := by decide +kernel
theorem dL_line_16 : decode cL_line 16 = .ok (.iload_n 1, 1) := by decide +kernel
theorem dL_line_17 : decode cL_line 17 = .ok (.iload_n 2, 1) := by decide +kernel
theorem dL_line_18 : decode cL_line 18 = .ok (.invokestatic 120, 3) := by decide +kernel
theorem dL_line_21 : decode cL_line 21 = .ok (.istore 5, 2) := by decide +kernel
theorem dL_line_23 : decode cL_line 23 = .ok (.aload_n 0, 1) := by decide +kernel
theorem dL_line_24 : decode cL_line 24 = .ok (.iload_n 1, 1) := by decide +kernel
theorem dL_line_25 : decode cL_line 25 = .ok (.iload_n 2, 1) := by decide +kernel
theorem dL_line_26 : decode cL_line 26 = .ok (.invokestatic 122, 3) := by decide +kernel
theorem dL_line_29 : decode cL_line 29 = .ok (.iconst 1, 1) := by decide +kernel
theorem dL_line_30 : decode cL_line 30 = .ok (.if_icmp .ne 7, 3) := by decide +kernel
theorem dL_line_33 : decode cL_line 33 = .ok (.iconst 1, 1) := by decide +kernel
theorem dL_line_34 : decode cL_line 34 = .ok (.goto 4, 3) := by decide +kernel
theorem dL_line_37 : decode cL_line 37 = .ok (.iconst 0, 1) := by decide +kernel
theorem dL_line_38 : decode cL_line 38 = .ok (.istore 6, 2) := by decide +kernel
theorem dL_line_40 : decode cL_line 40 = .ok (.iload_n 3, 1) := by decide +kernel
theorem dL_line_41 : decode cL_line 41 = .ok (.ifCond .lt 66, 3) := by decide +kernel
theorem dL_line_44 : decode cL_line 44 = .ok (.iload 4, 2) := by decide +kernel
theorem dL_line_46 : decode cL_line 46 = .ok (.ifCond .lt 61, 3) := by decide +kernel
theorem dL_line_49 : decode cL_line 49 = .ok (.iload 4, 2) := by decide +kernel
theorem dL_line_51 : decode cL_line 51 = .ok (.iconst 2, 1) := by decide +kernel
theorem dL_line_52 : decode cL_line 52 = .ok (.iload_n 3, 1) := by decide +kernel
theorem dL_line_53 : decode cL_line 53 = .ok (.imul, 1) := by decide +kernel
theorem dL_line_54 : decode cL_line 54 = .ok (.if_icmp .gt 53, 3) := by decide +kernel
theorem dL_line_57 : decode cL_line 57 = .ok (.iload 6, 2) := by decide +kernel
theorem dL_line_59 : decode cL_line 59 = .ok (.ifCond .eq 13, 3) := by decide +kernel
theorem dL_line_62 : decode cL_line 62 = .ok (.iload 4, 2) := by decide +kernel
theorem dL_line_64 : decode cL_line 64 = .ok (.iload 5, 2) := by decide +kernel
theorem dL_line_66 : decode cL_line 66 = .ok (.if_icmp .gt 41, 3) := by decide +kernel
theorem dL_line_69 : decode cL_line 69 = .ok (.goto 10, 3) := by decide +kernel
theorem dL_line_72 : decode cL_line 72 = .ok (.iload 4, 2) := by decide +kernel
theorem dL_line_74 : decode cL_line 74 = .ok (.iload 5, 2) := by decide +kernel
theorem dL_line_76 : decode cL_line 76 = .ok (.if_icmp .ne 31, 3) := by decide +kernel
theorem dL_line_79 : decode cL_line 79 = .ok (.aload_n 0, 1) := by decide +kernel
theorem dL_line_80 : decode cL_line 80 = .ok (.iload_n 1, 1) := by decide +kernel
theorem dL_line_81 : decode cL_line 81 = .ok (.iload_n 2, 1) := by decide +kernel
theorem dL_line_82 : decode cL_line 82 = .ok (.invokestatic 124, 3) := by decide +kernel
theorem dL_line_85 : decode cL_line 85 = .ok (.iload_n 3, 1) := by decide +kernel
theorem dL_line_86 : decode cL_line 86 = .ok (.ifCond .ne 7, 3) := by decide +kernel
theorem dL_line_89 : decode cL_line 89 = .ok (.fconst 0, 1) := by decide +kernel
theorem dL_line_90 : decode cL_line 90 = .ok (.goto 9, 3) := by decide +kernel
theorem dL_line_93 : decode cL_line 93 = .ok (.iload 4, 2) := by decide +kernel
theorem dL_line_95 : decode cL_line 95 = .ok (.i2f, 1) := by decide +kernel
theorem dL_line_96 : decode cL_line 96 = .ok (.iload_n 3, 1) := by decide +kernel
theorem dL_line_97 : decode cL_line 97 = .ok (.i2f, 1) := by decide +kernel
theorem dL_line_98 : decode cL_line 98 = .ok (.fdiv, 1) := by decide +kernel
theorem dL_line_99 : decode cL_line 99 = .ok (.fcmp .l, 1) := by decide +kernel
theorem dL_line_100 : decode cL_line 100 = .ok (.ifCond .ne 7, 3) := by decide +kernel
theorem dL_line_103 : decode cL_line 103 = .ok (.iconst 1, 1) := by decide +kernel
theorem dL_line_104 : decode cL_line 104 = .ok (.goto 4, 3) := by decide +kernel
theorem dL_line_107 : decode cL_line 107 = .ok (.iconst 0, 1) := by decide +kernel
theorem dL_line_108 : decode cL_line 108 = .ok (.istore 7, 2) := by decide +kernel
theorem dL_line_110 : decode cL_line 110 = .ok (.iload_n 2, 1) := by decide +kernel
theorem dL_line_111 : decode cL_line 111 = .ok (.iconst 2, 1) := by decide +kernel
theorem dL_line_112 : decode cL_line 112 = .ok (.irem, 1) := by decide +kernel
theorem dL_line_113 : decode cL_line 113 = .ok (.iconst 1, 1) := by decide +kernel
theorem dL_line_114 : decode cL_line 114 = .ok (.if_icmp .ne 8, 3) := by decide +kernel
theorem dL_line_117 : decode cL_line 117 = .ok (.iload 4, 2) := by decide +kernel
theorem dL_line_119 : decode cL_line 119 = .ok (.goto 9, 3) := by decide +kernel
theorem dL_line_122 : decode cL_line 122 = .ok (.iconst 2, 1) := by decide +kernel
theorem dL_line_123 : decode cL_line 123 = .ok (.iload_n 3, 1) := by decide +kernel
theorem dL_line_124 : decode cL_line 124 = .ok (.imul, 1) := by decide +kernel
theorem dL_line_125 : decode cL_line 125 = .ok (.iload 4, 2) := by decide +kernel
theorem dL_line_127 : decode cL_line 127 = .ok (.isub, 1) := by decide +kernel
theorem dL_line_128 : decode cL_line 128 = .ok (.istore 8, 2) := by decide +kernel
theorem dL_line_130 : decode cL_line 130 = .ok (.iload 7, 2) := by decide +kernel
theorem dL_line_132 : decode cL_line 132 = .ok (.ifCond .eq 27, 3) := by decide +kernel
theorem dL_line_135 : decode cL_line 135 = .ok (.iload 6, 2) := by decide +kernel
theorem dL_line_137 : decode cL_line 137 = .ok (.ifCond .ne 18, 3) := by decide +kernel
theorem dL_line_140 : decode cL_line 140 = .ok (.iload_n 3, 1) := by decide +kernel
theorem dL_line_141 : decode cL_line 141 = .ok (.iconst 3, 1) := by decide +kernel
theorem dL_line_142 : decode cL_line 142 = .ok (.if_icmp .lt 13, 3) := by decide +kernel
theorem dL_line_145 : decode cL_line 145 = .ok (.iconst 3, 1) := by decide +kernel
theorem dL_line_146 : decode cL_line 146 = .ok (.iload 8, 2) := by decide +kernel
theorem dL_line_148 : decode cL_line 148 = .ok (.imul, 1) := by decide +kernel
theorem dL_line_149 : decode cL_line 149 = .ok (.iconst 2, 1) := by decide +kernel
theorem dL_line_150 : decode cL_line 150 = .ok (.iload_n 3, 1) := by decide +kernel
theorem dL_line_151 : decode cL_line 151 = .ok (.imul, 1) := by decide +kernel
theorem dL_line_152 : decode cL_line 152 = .ok (.if_icmp .lt 7, 3) := by decide +kernel
theorem dL_line_155 : decode cL_line 155 = .ok (.iconst 1, 1) := by decide +kernel
theorem dL_line_156 : decode cL_line 156 = .ok (.goto 4, 3) := by decide +kernel
theorem dL_line_159 : decode cL_line 159 = .ok (.iconst 0, 1) := by decide +kernel
theorem dL_line_160 : decode cL_line 160 = .ok (.istore 7, 2) := by decide +kernel
theorem dL_line_162 : decode cL_line 162 = .ok (.iconst 0, 1) := by decide +kernel
theorem dL_line_163 : decode cL_line 163 = .ok (.istore 9, 2) := by decide +kernel
theorem dL_line_165 : decode cL_line 165 = .ok (.iconst 0, 1) := by decide +kernel
theorem dL_line_166 : decode cL_line 166 = .ok (.istore 10, 2) := by decide +kernel
theorem dL_line_168 : decode cL_line 168 = .ok (.iload 10, 2) := by decide +kernel
theorem dL_line_170 : decode cL_line 170 = .ok (.iconst 4, 1) := by decide +kernel
theorem dL_line_171 : decode cL_line 171 = .ok (.if_icmp .ge 69, 3) := by decide +kernel
theorem dL_line_174 : decode cL_line 174 = .ok (.iload_n 2, 1) := by decide +kernel
theorem dL_line_175 : decode cL_line 175 = .ok (.bipush 6, 2) := by decide +kernel
theorem dL_line_177 : decode cL_line 177 = .ok (.if_icmp .ge 63, 3) := by decide +kernel
theorem dL_line_180 : decode cL_line 180 = .ok (.iload_n 1, 1) := by decide +kernel
theorem dL_line_181 : decode cL_line 181 = .ok (.iload 10, 2) := by decide +kernel
theorem dL_line_183 : decode cL_line 183 = .ok (.iconst 2, 1) := by decide +kernel
theorem dL_line_184 : decode cL_line 184 = .ok (.iload_n 2, 1) := by decide +kernel
theorem dL_line_185 : decode cL_line 185 = .ok (.imul, 1) := by decide +kernel
theorem dL_line_186 : decode cL_line 186 = .ok (.ishl, 1) := by decide +kernel
theorem dL_line_187 : decode cL_line 187 = .ok (.iadd, 1) := by decide +kernel
theorem dL_line_188 : decode cL_line 188 = .ok (.istore 11, 2) := by decide +kernel
theorem dL_line_190 : decode cL_line 190 = .ok (.iload 9, 2) := by decide +kernel
theorem dL_line_192 : decode cL_line 192 = .ok (.aload_n 0, 1) := by decide +kernel
theorem dL_line_193 : decode cL_line 193 = .ok (.iload 11, 2) := by decide +kernel
theorem dL_line_195 : decode cL_line 195 = .ok (.iload_n 2, 1) := by decide +kernel
theorem dL_line_196 : decode cL_line 196 = .ok (.iconst 1, 1) := by decide +kernel
theorem dL_line_197 : decode cL_line 197 = .ok (.iadd, 1) := by decide +kernel
theorem dL_line_198 : decode cL_line 198 = .ok (.invokestatic 116, 3) := by decide +kernel
theorem dL_line_201 : decode cL_line 201 = .ok (.iadd, 1) := by decide +kernel
theorem dL_line_202 : decode cL_line 202 = .ok (.istore 9, 2) := by decide +kernel
theorem dL_line_204 : decode cL_line 204 = .ok (.iload 7, 2) := by decide +kernel
theorem dL_line_206 : decode cL_line 206 = .ok (.ifCond .eq 25, 3) := by decide +kernel
theorem dL_line_209 : decode cL_line 209 = .ok (.iload 6, 2) := by decide +kernel
theorem dL_line_211 : decode cL_line 211 = .ok (.ifCond .eq 16, 3) := by decide +kernel
theorem dL_line_214 : decode cL_line 214 = .ok (.aload_n 0, 1) := by decide +kernel
theorem dL_line_215 : decode cL_line 215 = .ok (.iload 11, 2) := by decide +kernel
theorem dL_line_217 : decode cL_line 217 = .ok (.iload_n 2, 1) := by decide +kernel
theorem dL_line_218 : decode cL_line 218 = .ok (.iconst 1, 1) := by decide +kernel
theorem dL_line_219 : decode cL_line 219 = .ok (.iadd, 1) := by decide +kernel
theorem dL_line_220 : decode cL_line 220 = .ok (.invokestatic 122, 3) := by decide +kernel
theorem dL_line_223 : decode cL_line 223 = .ok (.iconst 1, 1) := by decide +kernel
theorem dL_line_224 : decode cL_line 224 = .ok (.if_icmp .ne 7, 3) := by decide +kernel
theorem dL_line_227 : decode cL_line 227 = .ok (.iconst 1, 1) := by decide +kernel
theorem dL_line_228 : decode cL_line 228 = .ok (.goto 4, 3) := by decide +kernel
theorem dL_line_231 : decode cL_line 231 = .ok (.iconst 0, 1) := by decide +kernel
theorem dL_line_232 : decode cL_line 232 = .ok (.istore 7, 2) := by decide +kernel
theorem dL_line_234 : decode cL_line 234 = .ok (.iinc 10 1, 3) := by decide +kernel
theorem dL_line_237 : decode cL_line 237 = .ok (.goto (-69), 3) := by decide +kernel
theorem dL_line_240 : decode cL_line 240 = .ok (.iload 7, 2) := by decide +kernel
theorem dL_line_242 : decode cL_line 242 = .ok (.ifCond .eq 74, 3) := by decide +kernel
theorem dL_line_245 : decode cL_line 245 = .ok (.iload 9, 2) := by decide +kernel
theorem dL_line_247 : decode cL_line 247 = .ok (.iload_n 3, 1) := by decide +kernel
theorem dL_line_248 : decode cL_line 248 = .ok (.if_icmp .gt 68, 3) := by decide +kernel
theorem dL_line_251 : decode cL_line 251 = .ok (.aload_n 0, 1) := by decide +kernel
theorem dL_line_252 : decode cL_line 252 = .ok (.iconst 1, 1) := by decide +kernel
theorem dL_line_253 : decode cL_line 253 = .ok (.iconst 2, 1) := by decide +kernel
theorem dL_line_254 : decode cL_line 254 = .ok (.iload_n 2, 1) := by decide +kernel
theorem dL_line_255 : decode cL_line 255 = .ok (.imul, 1) := by decide +kernel
