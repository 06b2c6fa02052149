theorem dL_law_0 : decode cL_law 0 = .ok (.new 9, 3) := by decide +kernel
theorem dL_law_3 : decode cL_law 3 = .ok (.dup, 1) := by decide +kernel
theorem dL_law_4 : decode cL_law 4 = .ok (.invokespecial 124, 3) := by decide +kernel
theorem dL_law_7 : decode cL_law 7 = .ok (.astore_n 1, 1) := by decide +kernel
theorem dL_law_8 : decode cL_law 8 = .ok (.iconst 5, 1) := by decide +kernel
theorem dL_law_9 : decode cL_law 9 = .ok (.newarray .int, 2) := by decide +kernel
theorem dL_law_11 : decode cL_law 11 = .ok (.astore_n 2, 1) := by decide +kernel
theorem dL_law_12 : decode cL_law 12 = .ok (.iconst 5, 1) := by decide +kernel
theorem dL_law_13 : decode cL_law 13 = .ok (.newarray .int, 2) := by decide +kernel
theorem dL_law_15 : decode cL_law 15 = .ok (.astore_n 3, 1) := by decide +kernel
theorem dL_law_16 : decode cL_law 16 = .ok (.iconst 5, 1) := by decide +kernel
theorem dL_law_17 : decode cL_law 17 = .ok (.newarray .int, 2) := by decide +kernel
theorem dL_law_19 : decode cL_law 19 = .ok (.astore 4, 2) := by decide +kernel
theorem dL_law_21 : decode cL_law 21 = .ok (.iconst 3, 1) := by decide +kernel
theorem dL_law_22 : decode cL_law 22 = .ok (.newarray .int, 2) := by decide +kernel
theorem dL_law_24 : decode cL_law 24 = .ok (.astore 5, 2) := by decide +kernel
theorem dL_law_26 : decode cL_law 26 = .ok (.bipush 16, 2) := by decide +kernel
theorem dL_law_28 : decode cL_law 28 = .ok (.newarray .int, 2) := by decide +kernel
theorem dL_law_30 : decode cL_law 30 = .ok (.astore 6, 2) := by decide +kernel
theorem dL_law_32 : decode cL_law 32 = .ok (.bipush 40, 2) := by decide +kernel
theorem dL_law_34 : decode cL_law 34 = .ok (.newarray .int, 2) := by decide +kernel
theorem dL_law_36 : decode cL_law 36 = .ok (.astore 7, 2) := by decide +kernel
theorem dL_law_38 : decode cL_law 38 = .ok (.bipush 40, 2) := by decide +kernel
theorem dL_law_40 : decode cL_law 40 = .ok (.newarray .int, 2) := by decide +kernel
theorem dL_law_42 : decode cL_law 42 = .ok (.astore 8, 2) := by decide +kernel
theorem dL_law_44 : decode cL_law 44 = .ok (.bipush 30, 2) := by decide +kernel
theorem dL_law_46 : decode cL_law 46 = .ok (.newarray .int, 2) := by decide +kernel
theorem dL_law_48 : decode cL_law 48 = .ok (.astore 9, 2) := by decide +kernel
theorem dL_law_50 : decode cL_law 50 = .ok (.bipush 30, 2) := by decide +kernel
theorem dL_law_52 : decode cL_law 52 = .ok (.newarray .int, 2) := by decide +kernel
theorem dL_law_54 : decode cL_law 54 = .ok (.astore 10, 2) := by decide +kernel
theorem dL_law_56 : decode cL_law 56 = .ok (.aload 6, 2) := by decide +kernel
theorem dL_law_58 : decode cL_law 58 = .ok (.iconst 1, 1) := by decide +kernel
theorem dL_law_59 : decode cL_law 59 = .ok (.bipush 10, 2) := by decide +kernel
theorem dL_law_61 : decode cL_law 61 = .ok (.iastore, 1) := by decide +kernel
theorem dL_law_62 : decode cL_law 62 = .ok (.aload 6, 2) := by decide +kernel
theorem dL_law_64 : decode cL_law 64 = .ok (.iconst 3, 1) := by decide +kernel
theorem dL_law_65 : decode cL_law 65 = .ok (.iconst (-1), 1) := by decide +kernel
theorem dL_law_66 : decode cL_law 66 = .ok (.iastore, 1) := by decide +kernel
theorem dL_law_67 : decode cL_law 67 = .ok (.iconst 0, 1) := by decide +kernel
theorem dL_law_68 : decode cL_law 68 = .ok (.istore 11, 2) := by decide +kernel
theorem dL_law_70 : decode cL_law 70 = .ok (.iload 11, 2) := by decide +kernel
theorem dL_law_72 : decode cL_law 72 = .ok (.iconst 5, 1) := by decide +kernel
theorem dL_law_73 : decode cL_law 73 = .ok (.if_icmp .ge 48, 3) := by decide +kernel
theorem dL_law_76 : decode cL_law 76 = .ok (.aload_n 2, 1) := by decide +kernel
theorem dL_law_77 : decode cL_law 77 = .ok (.iload 11, 2) := by decide +kernel
theorem dL_law_79 : decode cL_law 79 = .ok (.sipush 500, 3) := by decide +kernel
theorem dL_law_82 : decode cL_law 82 = .ok (.aload_n 0, 1) := by decide +kernel
theorem dL_law_83 : decode cL_law 83 = .ok (.iload 11, 2) := by decide +kernel
theorem dL_law_85 : decode cL_law 85 = .ok (.invokestatic 125, 3) := by decide +kernel
theorem dL_law_88 : decode cL_law 88 = .ok (.sipush 6000, 3) := by decide +kernel
theorem dL_law_91 : decode cL_law 91 = .ok (.invokestatic 129, 3) := by decide +kernel
theorem dL_law_94 : decode cL_law 94 = .ok (.iadd, 1) := by decide +kernel
theorem dL_law_95 : decode cL_law 95 = .ok (.iastore, 1) := by decide +kernel
theorem dL_law_96 : decode cL_law 96 = .ok (.aload_n 1, 1) := by decide +kernel
theorem dL_law_97 : decode cL_law 97 = .ok (.iload 11, 2) := by decide +kernel
theorem dL_law_99 : decode cL_law 99 = .ok (.iconst 3, 1) := by decide +kernel
theorem dL_law_100 : decode cL_law 100 = .ok (.irem, 1) := by decide +kernel
theorem dL_law_101 : decode cL_law 101 = .ok (.aload_n 2, 1) := by decide +kernel
theorem dL_law_102 : decode cL_law 102 = .ok (.iload 11, 2) := by decide +kernel
theorem dL_law_104 : decode cL_law 104 = .ok (.iaload, 1) := by decide +kernel
theorem dL_law_105 : decode cL_law 105 = .ok (.invokestatic 132, 3) := by decide +kernel
theorem dL_law_108 : decode cL_law 108 = .ok (.iload 11, 2) := by decide +kernel
theorem dL_law_110 : decode cL_law 110 = .ok (.if_icmp .eq 5, 3) := by decide +kernel
theorem dL_law_113 : decode cL_law 113 = .ok (.iconst 0, 1) := by decide +kernel
theorem dL_law_114 : decode cL_law 114 = .ok (.ireturn, 1) := by decide +kernel
theorem dL_law_115 : decode cL_law 115 = .ok (.iinc 11 1, 3) := by decide +kernel
theorem dL_law_118 : decode cL_law 118 = .ok (.goto (-48), 3) := by decide +kernel
theorem dL_law_121 : decode cL_law 121 = .ok (.iconst 0, 1) := by decide +kernel
theorem dL_law_122 : decode cL_law 122 = .ok (.istore 11, 2) := by decide +kernel
theorem dL_law_124 : decode cL_law 124 = .ok (.iconst 0, 1) := by decide +kernel
theorem dL_law_125 : decode cL_law 125 = .ok (.istore 12, 2) := by decide +kernel
theorem dL_law_127 : decode cL_law 127 = .ok (.iconst 0, 1) := by decide +kernel
theorem dL_law_128 : decode cL_law 128 = .ok (.istore 13, 2) := by decide +kernel
theorem dL_law_130 : decode cL_law 130 = .ok (.iload 13, 2) := by decide +kernel
theorem dL_law_132 : decode cL_law 132 = .ok (.bipush 120, 2) := by decide +kernel
theorem dL_law_134 : decode cL_law 134 = .ok (.if_icmp .ge 2655, 3) := by decide +kernel
theorem dL_law_137 : decode cL_law 137 = .ok (.aload_n 0, 1) := by decide +kernel
theorem dL_law_138 : decode cL_law 138 = .ok (.iconst 5, 1) := by decide +kernel
theorem dL_law_139 : decode cL_law 139 = .ok (.iconst 2, 1) := by decide +kernel
theorem dL_law_140 : decode cL_law 140 = .ok (.iload 13, 2) := by decide +kernel
theorem dL_law_142 : decode cL_law 142 = .ok (.imul, 1) := by decide +kernel
theorem dL_law_143 : decode cL_law 143 = .ok (.iadd, 1) := by decide +kernel
theorem dL_law_144 : decode cL_law 144 = .ok (.invokestatic 125, 3) := by decide +kernel
theorem dL_law_147 : decode cL_law 147 = .ok (.istore 14, 2) := by decide +kernel
theorem dL_law_149 : decode cL_law 149 = .ok (.aload_n 0, 1) := by decide +kernel
theorem dL_law_150 : decode cL_law 150 = .ok (.bipush 6, 2) := by decide +kernel
theorem dL_law_152 : decode cL_law 152 = .ok (.iconst 2, 1) := by decide +kernel
theorem dL_law_153 : decode cL_law 153 = .ok (.iload 13, 2) := by decide +kernel
theorem dL_law_155 : decode cL_law 155 = .ok (.imul, 1) := by decide +kernel
theorem dL_law_156 : decode cL_law 156 = .ok (.iadd, 1) := by decide +kernel
theorem dL_law_157 : decode cL_law 157 = .ok (.invokestatic 125, 3) := by decide +kernel
theorem dL_law_160 : decode cL_law 160 = .ok (.istore 15, 2) := by decide +kernel
theorem dL_law_162 : decode cL_law 162 = .ok (.iload 14, 2) := by decide +kernel
theorem dL_law_164 : decode cL_law 164 = .ok (.iconst 5, 1) := by decide +kernel
theorem dL_law_165 : decode cL_law 165 = .ok (.ishr, 1) := by decide +kernel
theorem dL_law_166 : decode cL_law 166 = .ok (.iconst 5, 1) := by decide +kernel
theorem dL_law_167 : decode cL_law 167 = .ok (.invokestatic 129, 3) := by decide +kernel
theorem dL_law_170 : decode cL_law 170 = .ok (.istore 16, 2) := by decide +kernel
theorem dL_law_172 : decode cL_law 172 = .ok (.iload 14, 2) := by decide +kernel
theorem dL_law_174 : decode cL_law 174 = .ok (.bipush 8, 2) := by decide +kernel
theorem dL_law_176 : decode cL_law 176 = .ok (.ishr, 1) := by decide +kernel
theorem dL_law_177 : decode cL_law 177 = .ok (.iconst 5, 1) := by decide +kernel
theorem dL_law_178 : decode cL_law 178 = .ok (.invokestatic 129, 3) := by decide +kernel
theorem dL_law_181 : decode cL_law 181 = .ok (.istore 17, 2) := by decide +kernel
theorem dL_law_183 : decode cL_law 183 = .ok (.aload_n 3, 1) := by decide +kernel
theorem dL_law_184 : decode cL_law 184 = .ok (.iload 16, 2) := by decide +kernel
theorem dL_law_186 : decode cL_law 186 = .ok (.iaload, 1) := by decide +kernel
theorem dL_law_187 : decode cL_law 187 = .ok (.ifCond .ne 7, 3) := by decide +kernel
theorem dL_law_190 : decode cL_law 190 = .ok (.iconst 1, 1) := by decide +kernel
theorem dL_law_191 : decode cL_law 191 = .ok (.goto 36, 3) := by decide +kernel
theorem dL_law_194 : decode cL_law 194 = .ok (.iconst 1, 1) := by decide +kernel
theorem dL_law_195 : decode cL_law 195 = .ok (.iload 15, 2) := by decide +kernel
theorem dL_law_197 : decode cL_law 197 = .ok (.iload 14, 2) := by decide +kernel
theorem dL_law_199 : decode cL_law 199 = .ok (.sipush 12288, 3) := by decide +kernel
theorem dL_law_202 : decode cL_law 202 = .ok (.iand, 1) := by decide +kernel
theorem dL_law_203 : decode cL_law 203 = .ok (.ifCond .ne 12, 3) := by decide +kernel
theorem dL_law_206 : decode cL_law 206 = .ok (.aload_n 3, 1) := by decide +kernel
theorem dL_law_207 : decode cL_law 207 = .ok (.iload 16, 2) := by decide +kernel
theorem dL_law_209 : decode cL_law 209 = .ok (.iaload, 1) := by decide +kernel
theorem dL_law_210 : decode cL_law 210 = .ok (.iconst 3, 1) := by decide +kernel
theorem dL_law_211 : decode cL_law 211 = .ok (.iadd, 1) := by decide +kernel
theorem dL_law_212 : decode cL_law 212 = .ok (.goto 11, 3) := by decide +kernel
theorem dL_law_215 : decode cL_law 215 = .ok (.aload_n 3, 1) := by decide +kernel
theorem dL_law_216 : decode cL_law 216 = .ok (.iload 16, 2) := by decide +kernel
theorem dL_law_218 : decode cL_law 218 = .ok (.iaload, 1) := by decide +kernel
theorem dL_law_219 : decode cL_law 219 = .ok (.iconst 3, 1) := by decide +kernel
theorem dL_law_220 : decode cL_law 220 = .ok (.idiv, 1) := by decide +kernel
theorem dL_law_221 : decode cL_law 221 = .ok (.iconst 1, 1) := by decide +kernel
theorem dL_law_222 : decode cL_law 222 = .ok (.iadd, 1) := by decide +kernel
theorem dL_law_223 : decode cL_law 223 = .ok (.invokestatic 129, 3) := by decide +kernel
theorem dL_law_226 : decode cL_law 226 = .ok (.iadd, 1) := by decide +kernel
theorem dL_law_227 : decode cL_law 227 = .ok (.istore 18, 2) := by decide +kernel
theorem dL_law_229 : decode cL_law 229 = .ok (.iload 18, 2) := by decide +kernel
theorem dL_law_231 : decode cL_law 231 = .ok (.aload_n 3, 1) := by decide +kernel
theorem dL_law_232 : decode cL_law 232 = .ok (.iload 16, 2) := by decide +kernel
theorem dL_law_234 : decode cL_law 234 = .ok (.iaload, 1) := by decide +kernel
theorem dL_law_235 : decode cL_law 235 = .ok (.if_icmp .gt 7, 3) := by decide +kernel
theorem dL_law_238 : decode cL_law 238 = .ok (.iconst 1, 1) := by decide +kernel
theorem dL_law_239 : decode cL_law 239 = .ok (.goto 4, 3) := by decide +kernel
theorem dL_law_242 : decode cL_law 242 = .ok (.iconst 0, 1) := by decide +kernel
theorem dL_law_243 : decode cL_law 243 = .ok (.istore 19, 2) := by decide +kernel
theorem dL_law_245 : decode cL_law 245 = .ok (.iconst 1, 1) := by decide +kernel
theorem dL_law_246 : decode cL_law 246 = .ok (.istore 20, 2) := by decide +kernel
theorem dL_law_248 : decode cL_law 248 = .ok (.iload 13, 2) := by decide +kernel
theorem dL_law_250 : decode cL_law 250 = .ok (.iconst 4, 1) := by decide +kernel
theorem dL_law_251 : decode cL_law 251 = .ok (.if_icmp .ge 7, 3) := by decide +kernel
theorem dL_law_254 : decode cL_law 254 = .ok (.iconst 0, 1) := by decide +kernel
theorem dL_law_255 : decode cL_law 255 = .ok (.goto 10, 3) := by decide +kernel
theorem dL_law_258 : decode cL_law 258 = .ok (.iload 14, 2) := by decide +kernel
theorem dL_law_260 : decode cL_law 260 = .ok (.bipush 17, 2) := by decide +kernel
theorem dL_law_262 : decode cL_law 262 = .ok (.invokestatic 129, 3) := by decide +kernel
theorem dL_law_265 : decode cL_law 265 = .ok (.tableswitch 2399 0 14 #[75, 75, 351, 481, 732, 847, 847, 1097, 1268, 1488, 1597, 1720, 1828, 2034, 2342], 75) := by decide +kernel
theorem dL_law_340 : decode cL_law 340 = .ok (.iload 11, 2) := by decide +kernel
theorem dL_law_342 : decode cL_law 342 = .ok (.bipush 60, 2) := by decide +kernel
theorem dL_law_344 : decode cL_law 344 = .ok (.if_icmp .ne 6, 3) := by decide +kernel
theorem dL_law_347 : decode cL_law 347 = .ok (.goto 2408, 3) := by decide +kernel
theorem dL_law_350 : decode cL_law 350 = .ok (.sipush 1000, 3) := by decide +kernel
theorem dL_law_353 : decode cL_law 353 = .ok (.iload 15, 2) := by decide +kernel
theorem dL_law_355 : decode cL_law 355 = .ok (.sipush 8000, 3) := by decide +kernel
theorem dL_law_358 : decode cL_law 358 = .ok (.invokestatic 129, 3) := by decide +kernel
theorem dL_law_361 : decode cL_law 361 = .ok (.iadd, 1) := by decide +kernel
theorem dL_law_362 : decode cL_law 362 = .ok (.istore 21, 2) := by decide +kernel
theorem dL_law_364 : decode cL_law 364 = .ok (.iconst 1, 1) := by decide +kernel
theorem dL_law_365 : decode cL_law 365 = .ok (.iload 15, 2) := by decide +kernel
theorem dL_law_367 : decode cL_law 367 = .ok (.bipush 9, 2) := by decide +kernel
theorem dL_law_369 : decode cL_law 369 = .ok (.ishr, 1) := by decide +kernel
theorem dL_law_370 : decode cL_law 370 = .ok (.sipush 300, 3) := by decide +kernel
theorem dL_law_373 : decode cL_law 373 = .ok (.invokestatic 129, 3) := by decide +kernel
theorem dL_law_376 : decode cL_law 376 = .ok (.iadd, 1) := by decide +kernel
theorem dL_law_377 : decode cL_law 377 = .ok (.istore 22, 2) := by decide +kernel
theorem dL_law_379 : decode cL_law 379 = .ok (.sipush 500, 3) := by decide +kernel
theorem dL_law_382 : decode cL_law 382 = .ok (.iload 15, 2) := by decide +kernel
theorem dL_law_384 : decode cL_law 384 = .ok (.bipush 13, 2) := by decide +kernel
theorem dL_law_386 : decode cL_law 386 = .ok (.ishr, 1) := by decide +kernel
theorem dL_law_387 : decode cL_law 387 = .ok (.sipush 461, 3) := by decide +kernel
theorem dL_law_390 : decode cL_law 390 = .ok (.invokestatic 129, 3) := by decide +kernel
theorem dL_law_393 : decode cL_law 393 = .ok (.iadd, 1) := by decide +kernel
theorem dL_law_394 : decode cL_law 394 = .ok (.istore 23, 2) := by decide +kernel
theorem dL_law_396 : decode cL_law 396 = .ok (.iconst 1, 1) := by decide +kernel
theorem dL_law_397 : decode cL_law 397 = .ok (.iload 21, 2) := by decide +kernel
theorem dL_law_399 : decode cL_law 399 = .ok (.iload 22, 2) := by decide +kernel
theorem dL_law_401 : decode cL_law 401 = .ok (.imul, 1) := by decide +kernel
theorem dL_law_402 : decode cL_law 402 = .ok (.iload 23, 2) := by decide +kernel
theorem dL_law_404 : decode cL_law 404 = .ok (.idiv, 1) := by decide +kernel
theorem dL_law_405 : decode cL_law 405 = .ok (.bipush 85, 2) := by decide +kernel
theorem dL_law_407 : decode cL_law 407 = .ok (.iload 15, 2) := by decide +kernel
theorem dL_law_409 : decode cL_law 409 = .ok (.bipush 18, 2) := by decide +kernel
theorem dL_law_411 : decode cL_law 411 = .ok (.ishr, 1) := by decide +kernel
theorem dL_law_412 : decode cL_law 412 = .ok (.bipush 17, 2) := by decide +kernel
theorem dL_law_414 : decode cL_law 414 = .ok (.invokestatic 129, 3) := by decide +kernel
theorem dL_law_417 : decode cL_law 417 = .ok (.iadd, 1) := by decide +kernel
theorem dL_law_418 : decode cL_law 418 = .ok (.imul, 1) := by decide +kernel
theorem dL_law_419 : decode cL_law 419 = .ok (.bipush 100, 2) := by decide +kernel
theorem dL_law_421 : decode cL_law 421 = .ok (.idiv, 1) := by decide +kernel
theorem dL_law_422 : decode cL_law 422 = .ok (.iadd, 1) := by decide +kernel
theorem dL_law_423 : decode cL_law 423 = .ok (.istore 24, 2) := by decide +kernel
theorem dL_law_425 : decode cL_law 425 = .ok (.iload 24, 2) := by decide +kernel
theorem dL_law_427 : decode cL_law 427 = .ok (.sipush 9999, 3) := by decide +kernel
theorem dL_law_430 : decode cL_law 430 = .ok (.if_icmp .le 9, 3) := by decide +kernel
theorem dL_law_433 : decode cL_law 433 = .ok (.sipush 9999, 3) := by decide +kernel
theorem dL_law_436 : decode cL_law 436 = .ok (.goto 5, 3) := by decide +kernel
theorem dL_law_439 : decode cL_law 439 = .ok (.iload 24, 2) := by decide +kernel
theorem dL_law_441 : decode cL_law 441 = .ok (.istore 24, 2) := by decide +kernel
theorem dL_law_443 : decode cL_law 443 = .ok (.iload 24, 2) := by decide +kernel
theorem dL_law_445 : decode cL_law 445 = .ok (.iload 23, 2) := by decide +kernel
theorem dL_law_447 : decode cL_law 447 = .ok (.imul, 1) := by decide +kernel
theorem dL_law_448 : decode cL_law 448 = .ok (.iload 21, 2) := by decide +kernel
theorem dL_law_450 : decode cL_law 450 = .ok (.iload 22, 2) := by decide +kernel
theorem dL_law_452 : decode cL_law 452 = .ok (.imul, 1) := by decide +kernel
theorem dL_law_453 : decode cL_law 453 = .ok (.if_icmp .gt 21, 3) := by decide +kernel
theorem dL_law_456 : decode cL_law 456 = .ok (.aload_n 3, 1) := by decide +kernel
theorem dL_law_457 : decode cL_law 457 = .ok (.iload 16, 2) := by decide +kernel
theorem dL_law_459 : decode cL_law 459 = .ok (.iaload, 1) := by decide +kernel
theorem dL_law_460 : decode cL_law 460 = .ok (.iload 24, 2) := by decide +kernel
theorem dL_law_462 : decode cL_law 462 = .ok (.iadd, 1) := by decide +kernel
theorem dL_law_463 : decode cL_law 463 = .ok (.aload_n 2, 1) := by decide +kernel
theorem dL_law_464 : decode cL_law 464 = .ok (.iload 16, 2) := by decide +kernel
theorem dL_law_466 : decode cL_law 466 = .ok (.iaload, 1) := by decide +kernel
theorem dL_law_467 : decode cL_law 467 = .ok (.if_icmp .gt 7, 3) := by decide +kernel
theorem dL_law_470 : decode cL_law 470 = .ok (.iconst 1, 1) := by decide +kernel
theorem dL_law_471 : decode cL_law 471 = .ok (.goto 4, 3) := by decide +kernel
theorem dL_law_474 : decode cL_law 474 = .ok (.iconst 0, 1) := by decide +kernel
theorem dL_law_475 : decode cL_law 475 = .ok (.istore 25, 2) := by decide +kernel
theorem dL_law_477 : decode cL_law 477 = .ok (.bipush 9, 2) := by decide +kernel
theorem dL_law_479 : decode cL_law 479 = .ok (.iload 21, 2) := by decide +kernel
theorem dL_law_481 : decode cL_law 481 = .ok (.imul, 1) := by decide +kernel
theorem dL_law_482 : decode cL_law 482 = .ok (.iload 22, 2) := by decide +kernel
theorem dL_law_484 : decode cL_law 484 = .ok (.imul, 1) := by decide +kernel
theorem dL_law_485 : decode cL_law 485 = .ok (.bipush 10, 2) := by decide +kernel
theorem dL_law_487 : decode cL_law 487 = .ok (.idiv, 1) := by decide +kernel
theorem dL_law_488 : decode cL_law 488 = .ok (.iload 24, 2) := by decide +kernel
theorem dL_law_490 : decode cL_law 490 = .ok (.iload 23, 2) := by decide +kernel
theorem dL_law_492 : decode cL_law 492 = .ok (.imul, 1) := by decide +kernel
theorem dL_law_493 : decode cL_law 493 = .ok (.isub, 1) := by decide +kernel
theorem dL_law_494 : decode cL_law 494 = .ok (.istore 26, 2) := by decide +kernel
theorem dL_law_496 : decode cL_law 496 = .ok (.iload 26, 2) := by decide +kernel
theorem dL_law_498 : decode cL_law 498 = .ok (.ifCond .ge 7, 3) := by decide +kernel
theorem dL_law_501 : decode cL_law 501 = .ok (.iconst 0, 1) := by decide +kernel
theorem dL_law_502 : decode cL_law 502 = .ok (.goto 5, 3) := by decide +kernel
theorem dL_law_505 : decode cL_law 505 = .ok (.iload 26, 2) := by decide +kernel
theorem dL_law_507 : decode cL_law 507 = .ok (.istore 26, 2) := by decide +kernel
theorem dL_law_509 : decode cL_law 509 = .ok (.aload_n 1, 1) := by decide +kernel
theorem dL_law_510 : decode cL_law 510 = .ok (.iload 16, 2) := by decide +kernel
theorem dL_law_512 : decode cL_law 512 = .ok (.iload 21, 2) := by decide +kernel
theorem dL_law_514 : decode cL_law 514 = .ok (.iload 22, 2) := by decide +kernel
theorem dL_law_516 : decode cL_law 516 = .ok (.iload 24, 2) := by decide +kernel
theorem dL_law_518 : decode cL_law 518 = .ok (.iload 23, 2) := by decide +kernel
theorem dL_law_520 : decode cL_law 520 = .ok (.invokestatic 134, 3) := by decide +kernel
theorem dL_law_523 : decode cL_law 523 = .ok (.iload 25, 2) := by decide +kernel
theorem dL_law_525 : decode cL_law 525 = .ok (.ifCond .eq 8, 3) := by decide +kernel
theorem dL_law_528 : decode cL_law 528 = .ok (.iload 26, 2) := by decide +kernel
theorem dL_law_530 : decode cL_law 530 = .ok (.goto 5, 3) := by decide +kernel
theorem dL_law_533 : decode cL_law 533 = .ok (.ldc 22, 2) := by decide +kernel
theorem dL_law_535 : decode cL_law 535 = .ok (.if_icmp .ne 7, 3) := by decide +kernel
theorem dL_law_538 : decode cL_law 538 = .ok (.iconst 1, 1) := by decide +kernel
theorem dL_law_539 : decode cL_law 539 = .ok (.goto 4, 3) := by decide +kernel
theorem dL_law_542 : decode cL_law 542 = .ok (.iconst 0, 1) := by decide +kernel
theorem dL_law_543 : decode cL_law 543 = .ok (.istore 20, 2) := by decide +kernel
theorem dL_law_545 : decode cL_law 545 = .ok (.iload 25, 2) := by decide +kernel
theorem dL_law_547 : decode cL_law 547 = .ok (.ifCond .ne 6, 3) := by decide +kernel
theorem dL_law_550 : decode cL_law 550 = .ok (.goto 2205, 3) := by decide +kernel
theorem dL_law_553 : decode cL_law 553 = .ok (.iinc 11 1, 3) := by decide +kernel
theorem dL_law_556 : decode cL_law 556 = .ok (.aload 6, 2) := by decide +kernel
theorem dL_law_558 : decode cL_law 558 = .ok (.bipush 15, 2) := by decide +kernel
theorem dL_law_560 : decode cL_law 560 = .ok (.dup2, 1) := by decide +kernel
theorem dL_law_561 : decode cL_law 561 = .ok (.iaload, 1) := by decide +kernel
theorem dL_law_562 : decode cL_law 562 = .ok (.iload 26, 2) := by decide +kernel
theorem dL_law_564 : decode cL_law 564 = .ok (.iadd, 1) := by decide +kernel
theorem dL_law_565 : decode cL_law 565 = .ok (.iastore, 1) := by decide +kernel
theorem dL_law_566 : decode cL_law 566 = .ok (.aload 6, 2) := by decide +kernel
theorem dL_law_568 : decode cL_law 568 = .ok (.iconst 2, 1) := by decide +kernel
theorem dL_law_569 : decode cL_law 569 = .ok (.dup2, 1) := by decide +kernel
theorem dL_law_570 : decode cL_law 570 = .ok (.iaload, 1) := by decide +kernel
theorem dL_law_571 : decode cL_law 571 = .ok (.iload 26, 2) := by decide +kernel
theorem dL_law_573 : decode cL_law 573 = .ok (.aload 6, 2) := by decide +kernel
theorem dL_law_575 : decode cL_law 575 = .ok (.iconst 1, 1) := by decide +kernel
theorem dL_law_576 : decode cL_law 576 = .ok (.iaload, 1) := by decide +kernel
theorem dL_law_577 : decode cL_law 577 = .ok (.sipush 1000, 3) := by decide +kernel
theorem dL_law_580 : decode cL_law 580 = .ok (.invokestatic 94, 3) := by decide +kernel
theorem dL_law_583 : decode cL_law 583 = .ok (.iadd, 1) := by decide +kernel
theorem dL_law_584 : decode cL_law 584 = .ok (.iastore, 1) := by decide +kernel
theorem dL_law_585 : decode cL_law 585 = .ok (.aload 6, 2) := by decide +kernel
theorem dL_law_587 : decode cL_law 587 = .ok (.bipush 11, 2) := by decide +kernel
theorem dL_law_589 : decode cL_law 589 = .ok (.dup2, 1) := by decide +kernel
theorem dL_law_590 : decode cL_law 590 = .ok (.iaload, 1) := by decide +kernel
theorem dL_law_591 : decode cL_law 591 = .ok (.iload 24, 2) := by decide +kernel
theorem dL_law_593 : decode cL_law 593 = .ok (.iload 23, 2) := by decide +kernel
theorem dL_law_595 : decode cL_law 595 = .ok (.imul, 1) := by decide +kernel
theorem dL_law_596 : decode cL_law 596 = .ok (.iadd, 1) := by decide +kernel
theorem dL_law_597 : decode cL_law 597 = .ok (.iastore, 1) := by decide +kernel
theorem dL_law_598 : decode cL_law 598 = .ok (.iload 16, 2) := by decide +kernel
theorem dL_law_600 : decode cL_law 600 = .ok (.iload 24, 2) := by decide +kernel
theorem dL_law_602 : decode cL_law 602 = .ok (.iload 24, 2) := by decide +kernel
theorem dL_law_604 : decode cL_law 604 = .ok (.iload 23, 2) := by decide +kernel
theorem dL_law_606 : decode cL_law 606 = .ok (.imul, 1) := by decide +kernel
theorem dL_law_607 : decode cL_law 607 = .ok (.aload_n 3, 1) := by decide +kernel
theorem dL_law_608 : decode cL_law 608 = .ok (.aload 4, 2) := by decide +kernel
theorem dL_law_610 : decode cL_law 610 = .ok (.invokestatic 137, 3) := by decide +kernel
theorem dL_law_613 : decode cL_law 613 = .ok (.goto 2142, 3) := by decide +kernel
theorem dL_law_616 : decode cL_law 616 = .ok (.iload 16, 2) := by decide +kernel
theorem dL_law_618 : decode cL_law 618 = .ok (.iload 17, 2) := by decide +kernel
theorem dL_law_620 : decode cL_law 620 = .ok (.if_icmp .ne 27, 3) := by decide +kernel
theorem dL_law_623 : decode cL_law 623 = .ok (.aload_n 1, 1) := by decide +kernel
theorem dL_law_624 : decode cL_law 624 = .ok (.iload 16, 2) := by decide +kernel
theorem dL_law_626 : decode cL_law 626 = .ok (.iload 16, 2) := by decide +kernel
theorem dL_law_628 : decode cL_law 628 = .ok (.iconst 1, 1) := by decide +kernel
theorem dL_law_629 : decode cL_law 629 = .ok (.invokestatic 141, 3) := by decide +kernel
theorem dL_law_632 : decode cL_law 632 = .ok (.ldc 19, 2) := by decide +kernel
theorem dL_law_634 : decode cL_law 634 = .ok (.if_icmp .ne 7, 3) := by decide +kernel
theorem dL_law_637 : decode cL_law 637 = .ok (.iconst 1, 1) := by decide +kernel
theorem dL_law_638 : decode cL_law 638 = .ok (.goto 4, 3) := by decide +kernel
theorem dL_law_641 : decode cL_law 641 = .ok (.iconst 0, 1) := by decide +kernel
theorem dL_law_642 : decode cL_law 642 = .ok (.istore 20, 2) := by decide +kernel
theorem dL_law_644 : decode cL_law 644 = .ok (.goto 2111, 3) := by decide +kernel
theorem dL_law_647 : decode cL_law 647 = .ok (.iload 16, 2) := by decide +kernel
theorem dL_law_649 : decode cL_law 649 = .ok (.iconst 3, 1) := by decide +kernel
theorem dL_law_650 : decode cL_law 650 = .ok (.irem, 1) := by decide +kernel
theorem dL_law_651 : decode cL_law 651 = .ok (.iload 17, 2) := by decide +kernel
theorem dL_law_653 : decode cL_law 653 = .ok (.iconst 3, 1) := by decide +kernel
theorem dL_law_654 : decode cL_law 654 = .ok (.irem, 1) := by decide +kernel
theorem dL_law_655 : decode cL_law 655 = .ok (.if_icmp .ne 26, 3) := by decide +kernel
theorem dL_law_658 : decode cL_law 658 = .ok (.iload 19, 2) := by decide +kernel
theorem dL_law_660 : decode cL_law 660 = .ok (.ifCond .eq 21, 3) := by decide +kernel
theorem dL_law_663 : decode cL_law 663 = .ok (.aload_n 3, 1) := by decide +kernel
theorem dL_law_664 : decode cL_law 664 = .ok (.iload 17, 2) := by decide +kernel
theorem dL_law_666 : decode cL_law 666 = .ok (.iaload, 1) := by decide +kernel
theorem dL_law_667 : decode cL_law 667 = .ok (.iload 18, 2) := by decide +kernel
theorem dL_law_669 : decode cL_law 669 = .ok (.iadd, 1) := by decide +kernel
theorem dL_law_670 : decode cL_law 670 = .ok (.aload_n 2, 1) := by decide +kernel
theorem dL_law_671 : decode cL_law 671 = .ok (.iload 17, 2) := by decide +kernel
theorem dL_law_673 : decode cL_law 673 = .ok (.iaload, 1) := by decide +kernel
theorem dL_law_674 : decode cL_law 674 = .ok (.if_icmp .gt 7, 3) := by decide +kernel
theorem dL_law_677 : decode cL_law 677 = .ok (.iconst 1, 1) := by decide +kernel
theorem dL_law_678 : decode cL_law 678 = .ok (.goto 4, 3) := by decide +kernel
theorem dL_law_681 : decode cL_law 681 = .ok (.iconst 0, 1) := by decide +kernel
theorem dL_law_682 : decode cL_law 682 = .ok (.istore 27, 2) := by decide +kernel
theorem dL_law_684 : decode cL_law 684 = .ok (.iload 27, 2) := by decide +kernel
theorem dL_law_686 : decode cL_law 686 = .ok (.ifCond .eq 23, 3) := by decide +kernel
theorem dL_law_689 : decode cL_law 689 = .ok (.iload 17, 2) := by decide +kernel
theorem dL_law_691 : decode cL_law 691 = .ok (.iload 18, 2) := by decide +kernel
theorem dL_law_693 : decode cL_law 693 = .ok (.iload 16, 2) := by decide +kernel
theorem dL_law_695 : decode cL_law 695 = .ok (.iload 18, 2) := by decide +kernel
theorem dL_law_697 : decode cL_law 697 = .ok (.aload_n 3, 1) := by decide +kernel
theorem dL_law_698 : decode cL_law 698 = .ok (.aload 4, 2) := by decide +kernel
theorem dL_law_700 : decode cL_law 700 = .ok (.invokestatic 144, 3) := by decide +kernel
theorem dL_law_703 : decode cL_law 703 = .ok (.aload_n 3, 1) := by decide +kernel
theorem dL_law_704 : decode cL_law 704 = .ok (.aload 4, 2) := by decide +kernel
theorem dL_law_706 : decode cL_law 706 = .ok (.invokestatic 137, 3) := by decide +kernel
theorem dL_law_709 : decode cL_law 709 = .ok (.aload_n 1, 1) := by decide +kernel
theorem dL_law_710 : decode cL_law 710 = .ok (.iload 16, 2) := by decide +kernel
theorem dL_law_712 : decode cL_law 712 = .ok (.iload 17, 2) := by decide +kernel
theorem dL_law_714 : decode cL_law 714 = .ok (.iload 18, 2) := by decide +kernel
theorem dL_law_716 : decode cL_law 716 = .ok (.invokestatic 141, 3) := by decide +kernel
theorem dL_law_719 : decode cL_law 719 = .ok (.iload 27, 2) := by decide +kernel
theorem dL_law_721 : decode cL_law 721 = .ok (.ifCond .eq 10, 3) := by decide +kernel
theorem dL_law_724 : decode cL_law 724 = .ok (.aload_n 3, 1) := by decide +kernel
theorem dL_law_725 : decode cL_law 725 = .ok (.iload 17, 2) := by decide +kernel
theorem dL_law_727 : decode cL_law 727 = .ok (.iaload, 1) := by decide +kernel
theorem dL_law_728 : decode cL_law 728 = .ok (.goto 5, 3) := by decide +kernel
theorem dL_law_731 : decode cL_law 731 = .ok (.ldc 22, 2) := by decide +kernel
theorem dL_law_733 : decode cL_law 733 = .ok (.if_icmp .ne 7, 3) := by decide +kernel
theorem dL_law_736 : decode cL_law 736 = .ok (.iconst 1, 1) := by decide +kernel
theorem dL_law_737 : decode cL_law 737 = .ok (.goto 4, 3) := by decide +kernel
theorem dL_law_740 : decode cL_law 740 = .ok (.iconst 0, 1) := by decide +kernel
theorem dL_law_741 : decode cL_law 741 = .ok (.istore 20, 2) := by decide +kernel
theorem dL_law_743 : decode cL_law 743 = .ok (.goto 2012, 3) := by decide +kernel
theorem dL_law_746 : decode cL_law 746 = .ok (.iload 12, 2) := by decide +kernel
theorem dL_law_748 : decode cL_law 748 = .ok (.bipush 60, 2) := by decide +kernel
theorem dL_law_750 : decode cL_law 750 = .ok (.if_icmp .ne 6, 3) := by decide +kernel
theorem dL_law_753 : decode cL_law 753 = .ok (.goto 2002, 3) := by decide +kernel
theorem dL_law_756 : decode cL_law 756 = .ok (.aload_n 3, 1) := by decide +kernel
theorem dL_law_757 : decode cL_law 757 = .ok (.iload 16, 2) := by decide +kernel
theorem dL_law_759 : decode cL_law 759 = .ok (.iaload, 1) := by decide +kernel
theorem dL_law_760 : decode cL_law 760 = .ok (.iload 15, 2) := by decide +kernel
theorem dL_law_762 : decode cL_law 762 = .ok (.iconst 5, 1) := by decide +kernel
theorem dL_law_763 : decode cL_law 763 = .ok (.invokestatic 129, 3) := by decide +kernel
theorem dL_law_766 : decode cL_law 766 = .ok (.isub, 1) := by decide +kernel
theorem dL_law_767 : decode cL_law 767 = .ok (.iload 15, 2) := by decide +kernel
theorem dL_law_769 : decode cL_law 769 = .ok (.bipush 12, 2) := by decide +kernel
theorem dL_law_771 : decode cL_law 771 = .ok (.ishr, 1) := by decide +kernel
theorem dL_law_772 : decode cL_law 772 = .ok (.iconst 1, 1) := by decide +kernel
theorem dL_law_773 : decode cL_law 773 = .ok (.iand, 1) := by decide +kernel
theorem dL_law_774 : decode cL_law 774 = .ok (.iadd, 1) := by decide +kernel
theorem dL_law_775 : decode cL_law 775 = .ok (.istore 28, 2) := by decide +kernel
theorem dL_law_777 : decode cL_law 777 = .ok (.iload 28, 2) := by decide +kernel
theorem dL_law_779 : decode cL_law 779 = .ok (.ifCond .ge 7, 3) := by decide +kernel
theorem dL_law_782 : decode cL_law 782 = .ok (.iconst 0, 1) := by decide +kernel
theorem dL_law_783 : decode cL_law 783 = .ok (.goto 21, 3) := by decide +kernel
theorem dL_law_786 : decode cL_law 786 = .ok (.iload 28, 2) := by decide +kernel
theorem dL_law_788 : decode cL_law 788 = .ok (.aload_n 2, 1) := by decide +kernel
theorem dL_law_789 : decode cL_law 789 = .ok (.iload 16, 2) := by decide +kernel
theorem dL_law_791 : decode cL_law 791 = .ok (.iaload, 1) := by decide +kernel
theorem dL_law_792 : decode cL_law 792 = .ok (.if_icmp .le 10, 3) := by decide +kernel
theorem dL_law_795 : decode cL_law 795 = .ok (.aload_n 2, 1) := by decide +kernel
theorem dL_law_796 : decode cL_law 796 = .ok (.iload 16, 2) := by decide +kernel
theorem dL_law_798 : decode cL_law 798 = .ok (.iaload, 1) := by decide +kernel
theorem dL_law_799 : decode cL_law 799 = .ok (.goto 5, 3) := by decide +kernel
theorem dL_law_802 : decode cL_law 802 = .ok (.iload 28, 2) := by decide +kernel
theorem dL_law_804 : decode cL_law 804 = .ok (.istore 28, 2) := by decide +kernel
theorem dL_law_806 : decode cL_law 806 = .ok (.aload_n 3, 1) := by decide +kernel
theorem dL_law_807 : decode cL_law 807 = .ok (.iload 16, 2) := by decide +kernel
theorem dL_law_809 : decode cL_law 809 = .ok (.iaload, 1) := by decide +kernel
theorem dL_law_810 : decode cL_law 810 = .ok (.ifCond .ne 16, 3) := by decide +kernel
theorem dL_law_813 : decode cL_law 813 = .ok (.iload 15, 2) := by decide +kernel
theorem dL_law_815 : decode cL_law 815 = .ok (.iconst 4, 1) := by decide +kernel
theorem dL_law_816 : decode cL_law 816 = .ok (.ishr, 1) := by decide +kernel
theorem dL_law_817 : decode cL_law 817 = .ok (.sipush 900, 3) := by decide +kernel
theorem dL_law_820 : decode cL_law 820 = .ok (.invokestatic 129, 3) := by decide +kernel
theorem dL_law_823 : decode cL_law 823 = .ok (.goto 32, 3) := by decide +kernel
theorem dL_law_826 : decode cL_law 826 = .ok (.aload 4, 2) := by decide +kernel
theorem dL_law_828 : decode cL_law 828 = .ok (.iload 16, 2) := by decide +kernel
theorem dL_law_830 : decode cL_law 830 = .ok (.iaload, 1) := by decide +kernel
theorem dL_law_831 : decode cL_law 831 = .ok (.aload_n 3, 1) := by decide +kernel
theorem dL_law_832 : decode cL_law 832 = .ok (.iload 16, 2) := by decide +kernel
theorem dL_law_834 : decode cL_law 834 = .ok (.iaload, 1) := by decide +kernel
theorem dL_law_835 : decode cL_law 835 = .ok (.idiv, 1) := by decide +kernel
theorem dL_law_836 : decode cL_law 836 = .ok (.iload 15, 2) := by decide +kernel
theorem dL_law_838 : decode cL_law 838 = .ok (.iconst 4, 1) := by decide +kernel
theorem dL_law_839 : decode cL_law 839 = .ok (.ishr, 1) := by decide +kernel
theorem dL_law_840 : decode cL_law 840 = .ok (.iconst 4, 1) := by decide +kernel
theorem dL_law_841 : decode cL_law 841 = .ok (.invokestatic 129, 3) := by decide +kernel
theorem dL_law_844 : decode cL_law 844 = .ok (.isub, 1) := by decide +kernel
theorem dL_law_845 : decode cL_law 845 = .ok (.iload 15, 2) := by decide +kernel
theorem dL_law_847 : decode cL_law 847 = .ok (.bipush 7, 2) := by decide +kernel
theorem dL_law_849 : decode cL_law 849 = .ok (.ishr, 1) := by decide +kernel
theorem dL_law_850 : decode cL_law 850 = .ok (.iconst 5, 1) := by decide +kernel
theorem dL_law_851 : decode cL_law 851 = .ok (.invokestatic 129, 3) := by decide +kernel
theorem dL_law_854 : decode cL_law 854 = .ok (.iadd, 1) := by decide +kernel
theorem dL_law_855 : decode cL_law 855 = .ok (.istore 29, 2) := by decide +kernel
theorem dL_law_857 : decode cL_law 857 = .ok (.iload 29, 2) := by decide +kernel
theorem dL_law_859 : decode cL_law 859 = .ok (.ifCond .ge 7, 3) := by decide +kernel
theorem dL_law_862 : decode cL_law 862 = .ok (.iconst 0, 1) := by decide +kernel
theorem dL_law_863 : decode cL_law 863 = .ok (.goto 19, 3) := by decide +kernel
theorem dL_law_866 : decode cL_law 866 = .ok (.iload 29, 2) := by decide +kernel
theorem dL_law_868 : decode cL_law 868 = .ok (.sipush 960, 3) := by decide +kernel
theorem dL_law_871 : decode cL_law 871 = .ok (.if_icmp .le 9, 3) := by decide +kernel
theorem dL_law_874 : decode cL_law 874 = .ok (.sipush 960, 3) := by decide +kernel
theorem dL_law_877 : decode cL_law 877 = .ok (.goto 5, 3) := by decide +kernel
theorem dL_law_880 : decode cL_law 880 = .ok (.iload 29, 2) := by decide +kernel
theorem dL_law_882 : decode cL_law 882 = .ok (.istore 29, 2) := by decide +kernel
theorem dL_law_884 : decode cL_law 884 = .ok (.aload 4, 2) := by decide +kernel
theorem dL_law_886 : decode cL_law 886 = .ok (.iload 16, 2) := by decide +kernel
theorem dL_law_888 : decode cL_law 888 = .ok (.iaload, 1) := by decide +kernel
theorem dL_law_889 : decode cL_law 889 = .ok (.iload 28, 2) := by decide +kernel
theorem dL_law_891 : decode cL_law 891 = .ok (.iload 29, 2) := by decide +kernel
theorem dL_law_893 : decode cL_law 893 = .ok (.imul, 1) := by decide +kernel
theorem dL_law_894 : decode cL_law 894 = .ok (.isub, 1) := by decide +kernel
theorem dL_law_895 : decode cL_law 895 = .ok (.istore 30, 2) := by decide +kernel
theorem dL_law_897 : decode cL_law 897 = .ok (.aload_n 1, 1) := by decide +kernel
theorem dL_law_898 : decode cL_law 898 = .ok (.iload 16, 2) := by decide +kernel
theorem dL_law_900 : decode cL_law 900 = .ok (.iload 28, 2) := by decide +kernel
theorem dL_law_902 : decode cL_law 902 = .ok (.iload 29, 2) := by decide +kernel
theorem dL_law_904 : decode cL_law 904 = .ok (.invokestatic 148, 3) := by decide +kernel
theorem dL_law_907 : decode cL_law 907 = .ok (.iload 30, 2) := by decide +kernel
theorem dL_law_909 : decode cL_law 909 = .ok (.if_icmp .ne 7, 3) := by decide +kernel
theorem dL_law_912 : decode cL_law 912 = .ok (.iconst 1, 1) := by decide +kernel
theorem dL_law_913 : decode cL_law 913 = .ok (.goto 4, 3) := by decide +kernel
theorem dL_law_916 : decode cL_law 916 = .ok (.iconst 0, 1) := by decide +kernel
theorem dL_law_917 : decode cL_law 917 = .ok (.istore 20, 2) := by decide +kernel
theorem dL_law_919 : decode cL_law 919 = .ok (.iinc 12 1, 3) := by decide +kernel
theorem dL_law_922 : decode cL_law 922 = .ok (.iload 30, 2) := by decide +kernel
theorem dL_law_924 : decode cL_law 924 = .ok (.ifCond .ge 16, 3) := by decide +kernel
theorem dL_law_927 : decode cL_law 927 = .ok (.aload 6, 2) := by decide +kernel
theorem dL_law_929 : decode cL_law 929 = .ok (.bipush 11, 2) := by decide +kernel
theorem dL_law_931 : decode cL_law 931 = .ok (.dup2, 1) := by decide +kernel
theorem dL_law_932 : decode cL_law 932 = .ok (.iaload, 1) := by decide +kernel
theorem dL_law_933 : decode cL_law 933 = .ok (.iload 30, 2) := by decide +kernel
theorem dL_law_935 : decode cL_law 935 = .ok (.isub, 1) := by decide +kernel
theorem dL_law_936 : decode cL_law 936 = .ok (.iastore, 1) := by decide +kernel
theorem dL_law_937 : decode cL_law 937 = .ok (.goto 41, 3) := by decide +kernel
theorem dL_law_940 : decode cL_law 940 = .ok (.ldc2_w 150, 3) := by decide +kernel
theorem dL_law_943 : decode cL_law 943 = .ok (.iload 30, 2) := by decide +kernel
theorem dL_law_945 : decode cL_law 945 = .ok (.i2l, 1) := by decide +kernel
theorem dL_law_946 : decode cL_law 946 = .ok (.lmul, 1) := by decide +kernel
theorem dL_law_947 : decode cL_law 947 = .ok (.aload 4, 2) := by decide +kernel
theorem dL_law_949 : decode cL_law 949 = .ok (.iload 16, 2) := by decide +kernel
theorem dL_law_951 : decode cL_law 951 = .ok (.iaload, 1) := by decide +kernel
theorem dL_law_952 : decode cL_law 952 = .ok (.i2l, 1) := by decide +kernel
theorem dL_law_953 : decode cL_law 953 = .ok (.lcmp, 1) := by decide +kernel
theorem dL_law_954 : decode cL_law 954 = .ok (.ifCond .le 14, 3) := by decide +kernel
theorem dL_law_957 : decode cL_law 957 = .ok (.iload 30, 2) := by decide +kernel
theorem dL_law_959 : decode cL_law 959 = .ok (.aload 6, 2) := by decide +kernel
theorem dL_law_961 : decode cL_law 961 = .ok (.invokestatic 98, 3) := by decide +kernel
theorem dL_law_964 : decode cL_law 964 = .ok (.pop, 1) := by decide +kernel
theorem dL_law_965 : decode cL_law 965 = .ok (.goto 13, 3) := by decide +kernel
theorem dL_law_968 : decode cL_law 968 = .ok (.aload 6, 2) := by decide +kernel
theorem dL_law_970 : decode cL_law 970 = .ok (.bipush 12, 2) := by decide +kernel
theorem dL_law_972 : decode cL_law 972 = .ok (.dup2, 1) := by decide +kernel
theorem dL_law_973 : decode cL_law 973 = .ok (.iaload, 1) := by decide +kernel
theorem dL_law_974 : decode cL_law 974 = .ok (.iload 30, 2) := by decide +kernel
theorem dL_law_976 : decode cL_law 976 = .ok (.iadd, 1) := by decide +kernel
theorem dL_law_977 : decode cL_law 977 = .ok (.iastore, 1) := by decide +kernel
theorem dL_law_978 : decode cL_law 978 = .ok (.aload_n 3, 1) := by decide +kernel
theorem dL_law_979 : decode cL_law 979 = .ok (.iload 16, 2) := by decide +kernel
