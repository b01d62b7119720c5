theorem dL_below_0 : decode cL_below 0 = .ok (.iload_n 0, 1) := by decide +kernel
theorem dL_below_1 : decode cL_below 1 = .ok (.ldc 7, 2) := by decide +kernel
theorem dL_below_3 : decode cL_below 3 = .ok (.iand, 1) := by decide +kernel
theorem dL_below_4 : decode cL_below 4 = .ok (.iload_n 1, 1) := by decide +kernel
theorem dL_below_5 : decode cL_below 5 = .ok (.irem, 1) := by decide +kernel
theorem dL_below_6 : decode cL_below 6 = .ok (.ireturn, 1) := by decide +kernel
theorem dL_cell_0 : decode cL_cell 0 = .ok (.iload_n 1, 1) := by decide +kernel
theorem dL_cell_1 : decode cL_cell 1 = .ok (.aload_n 0, 1) := by decide +kernel
theorem dL_cell_2 : decode cL_cell 2 = .ok (.arraylength, 1) := by decide +kernel
theorem dL_cell_3 : decode cL_cell 3 = .ok (.if_icmp .ge 9, 3) := by decide +kernel
theorem dL_cell_6 : decode cL_cell 6 = .ok (.aload_n 0, 1) := by decide +kernel
theorem dL_cell_7 : decode cL_cell 7 = .ok (.iload_n 1, 1) := by decide +kernel
theorem dL_cell_8 : decode cL_cell 8 = .ok (.iaload, 1) := by decide +kernel
theorem dL_cell_9 : decode cL_cell 9 = .ok (.goto 9, 3) := by decide +kernel
theorem dL_cell_12 : decode cL_cell 12 = .ok (.ldc 8, 2) := by decide +kernel
theorem dL_cell_14 : decode cL_cell 14 = .ok (.iload_n 1, 1) := by decide +kernel
theorem dL_cell_15 : decode cL_cell 15 = .ok (.iconst 3, 1) := by decide +kernel
theorem dL_cell_16 : decode cL_cell 16 = .ok (.iadd, 1) := by decide +kernel
theorem dL_cell_17 : decode cL_cell 17 = .ok (.imul, 1) := by decide +kernel
theorem dL_cell_18 : decode cL_cell 18 = .ok (.ireturn, 1) := by decide +kernel
theorem dL_law_0 : decode cL_law 0 = .ok (.new 9, 3) := by decide +kernel
theorem dL_law_3 : decode cL_law 3 = .ok (.dup, 1) := by decide +kernel
theorem dL_law_4 : decode cL_law 4 = .ok (.invokespecial 11, 3) := by decide +kernel
theorem dL_law_7 : decode cL_law 7 = .ok (.astore_n 1, 1) := by decide +kernel
theorem dL_law_8 : decode cL_law 8 = .ok (.iconst 2, 1) := by decide +kernel
theorem dL_law_9 : decode cL_law 9 = .ok (.aload_n 0, 1) := by decide +kernel
theorem dL_law_10 : decode cL_law 10 = .ok (.iconst 0, 1) := by decide +kernel
theorem dL_law_11 : decode cL_law 11 = .ok (.invokestatic 12, 3) := by decide +kernel
theorem dL_law_14 : decode cL_law 14 = .ok (.iconst 4, 1) := by decide +kernel
theorem dL_law_15 : decode cL_law 15 = .ok (.invokestatic 18, 3) := by decide +kernel
theorem dL_law_18 : decode cL_law 18 = .ok (.iadd, 1) := by decide +kernel
theorem dL_law_19 : decode cL_law 19 = .ok (.istore_n 2, 1) := by decide +kernel
theorem dL_law_20 : decode cL_law 20 = .ok (.iconst 0, 1) := by decide +kernel
theorem dL_law_21 : decode cL_law 21 = .ok (.istore_n 3, 1) := by decide +kernel
theorem dL_law_22 : decode cL_law 22 = .ok (.iload_n 3, 1) := by decide +kernel
theorem dL_law_23 : decode cL_law 23 = .ok (.iload_n 2, 1) := by decide +kernel
theorem dL_law_24 : decode cL_law 24 = .ok (.if_icmp .ge 19, 3) := by decide +kernel
theorem dL_law_27 : decode cL_law 27 = .ok (.aload_n 1, 1) := by decide +kernel
theorem dL_law_28 : decode cL_law 28 = .ok (.invokevirtual 22, 3) := by decide +kernel
theorem dL_law_31 : decode cL_law 31 = .ok (.iload_n 3, 1) := by decide +kernel
theorem dL_law_32 : decode cL_law 32 = .ok (.if_icmp .eq 5, 3) := by decide +kernel
theorem dL_law_35 : decode cL_law 35 = .ok (.iconst 0, 1) := by decide +kernel
theorem dL_law_36 : decode cL_law 36 = .ok (.ireturn, 1) := by decide +kernel
theorem dL_law_37 : decode cL_law 37 = .ok (.iinc 3 1, 3) := by decide +kernel
theorem dL_law_40 : decode cL_law 40 = .ok (.goto (-18), 3) := by decide +kernel
theorem dL_law_43 : decode cL_law 43 = .ok (.iconst 3, 1) := by decide +kernel
theorem dL_law_44 : decode cL_law 44 = .ok (.aload_n 0, 1) := by decide +kernel
theorem dL_law_45 : decode cL_law 45 = .ok (.iconst 1, 1) := by decide +kernel
theorem dL_law_46 : decode cL_law 46 = .ok (.invokestatic 12, 3) := by decide +kernel
theorem dL_law_49 : decode cL_law 49 = .ok (.iconst 3, 1) := by decide +kernel
theorem dL_law_50 : decode cL_law 50 = .ok (.invokestatic 18, 3) := by decide +kernel
theorem dL_law_53 : decode cL_law 53 = .ok (.iadd, 1) := by decide +kernel
theorem dL_law_54 : decode cL_law 54 = .ok (.istore_n 3, 1) := by decide +kernel
theorem dL_law_55 : decode cL_law 55 = .ok (.iconst 0, 1) := by decide +kernel
theorem dL_law_56 : decode cL_law 56 = .ok (.istore 4, 2) := by decide +kernel
theorem dL_law_58 : decode cL_law 58 = .ok (.iload 4, 2) := by decide +kernel
theorem dL_law_60 : decode cL_law 60 = .ok (.iload_n 3, 1) := by decide +kernel
theorem dL_law_61 : decode cL_law 61 = .ok (.if_icmp .ge 70, 3) := by decide +kernel
theorem dL_law_64 : decode cL_law 64 = .ok (.aload_n 1, 1) := by decide +kernel
theorem dL_law_65 : decode cL_law 65 = .ok (.bipush 40, 2) := by decide +kernel
theorem dL_law_67 : decode cL_law 67 = .ok (.aload_n 0, 1) := by decide +kernel
theorem dL_law_68 : decode cL_law 68 = .ok (.iconst 2, 1) := by decide +kernel
theorem dL_law_69 : decode cL_law 69 = .ok (.iload 4, 2) := by decide +kernel
theorem dL_law_71 : decode cL_law 71 = .ok (.iadd, 1) := by decide +kernel
theorem dL_law_72 : decode cL_law 72 = .ok (.invokestatic 12, 3) := by decide +kernel
theorem dL_law_75 : decode cL_law 75 = .ok (.sipush 161, 3) := by decide +kernel
theorem dL_law_78 : decode cL_law 78 = .ok (.invokestatic 18, 3) := by decide +kernel
theorem dL_law_81 : decode cL_law 81 = .ok (.iadd, 1) := by decide +kernel
theorem dL_law_82 : decode cL_law 82 = .ok (.aload_n 0, 1) := by decide +kernel
theorem dL_law_83 : decode cL_law 83 = .ok (.iconst 2, 1) := by decide +kernel
theorem dL_law_84 : decode cL_law 84 = .ok (.iload 4, 2) := by decide +kernel
theorem dL_law_86 : decode cL_law 86 = .ok (.iadd, 1) := by decide +kernel
theorem dL_law_87 : decode cL_law 87 = .ok (.invokestatic 12, 3) := by decide +kernel
theorem dL_law_90 : decode cL_law 90 = .ok (.iconst 3, 1) := by decide +kernel
theorem dL_law_91 : decode cL_law 91 = .ok (.ishr, 1) := by decide +kernel
theorem dL_law_92 : decode cL_law 92 = .ok (.bipush 10, 2) := by decide +kernel
theorem dL_law_94 : decode cL_law 94 = .ok (.invokestatic 18, 3) := by decide +kernel
theorem dL_law_97 : decode cL_law 97 = .ok (.aload_n 0, 1) := by decide +kernel
theorem dL_law_98 : decode cL_law 98 = .ok (.iconst 2, 1) := by decide +kernel
theorem dL_law_99 : decode cL_law 99 = .ok (.iload 4, 2) := by decide +kernel
theorem dL_law_101 : decode cL_law 101 = .ok (.iadd, 1) := by decide +kernel
theorem dL_law_102 : decode cL_law 102 = .ok (.invokestatic 12, 3) := by decide +kernel
theorem dL_law_105 : decode cL_law 105 = .ok (.iconst 5, 1) := by decide +kernel
theorem dL_law_106 : decode cL_law 106 = .ok (.ishr, 1) := by decide +kernel
theorem dL_law_107 : decode cL_law 107 = .ok (.bipush 21, 2) := by decide +kernel
theorem dL_law_109 : decode cL_law 109 = .ok (.invokestatic 18, 3) := by decide +kernel
theorem dL_law_112 : decode cL_law 112 = .ok (.bipush 10, 2) := by decide +kernel
theorem dL_law_114 : decode cL_law 114 = .ok (.isub, 1) := by decide +kernel
theorem dL_law_115 : decode cL_law 115 = .ok (.invokevirtual 26, 3) := by decide +kernel
theorem dL_law_118 : decode cL_law 118 = .ok (.iload 4, 2) := by decide +kernel
theorem dL_law_120 : decode cL_law 120 = .ok (.if_icmp .eq 5, 3) := by decide +kernel
theorem dL_law_123 : decode cL_law 123 = .ok (.iconst 0, 1) := by decide +kernel
theorem dL_law_124 : decode cL_law 124 = .ok (.ireturn, 1) := by decide +kernel
theorem dL_law_125 : decode cL_law 125 = .ok (.iinc 4 1, 3) := by decide +kernel
theorem dL_law_128 : decode cL_law 128 = .ok (.goto (-70), 3) := by decide +kernel
theorem dL_law_131 : decode cL_law 131 = .ok (.iconst 0, 1) := by decide +kernel
theorem dL_law_132 : decode cL_law 132 = .ok (.istore 4, 2) := by decide +kernel
theorem dL_law_134 : decode cL_law 134 = .ok (.iconst 0, 1) := by decide +kernel
theorem dL_law_135 : decode cL_law 135 = .ok (.istore 5, 2) := by decide +kernel
theorem dL_law_137 : decode cL_law 137 = .ok (.iconst 0, 1) := by decide +kernel
theorem dL_law_138 : decode cL_law 138 = .ok (.istore 6, 2) := by decide +kernel
theorem dL_law_140 : decode cL_law 140 = .ok (.iconst 0, 1) := by decide +kernel
theorem dL_law_141 : decode cL_law 141 = .ok (.istore 7, 2) := by decide +kernel
theorem dL_law_143 : decode cL_law 143 = .ok (.iload 7, 2) := by decide +kernel
theorem dL_law_145 : decode cL_law 145 = .ok (.bipush 90, 2) := by decide +kernel
theorem dL_law_147 : decode cL_law 147 = .ok (.if_icmp .ge 1599, 3) := by decide +kernel
theorem dL_law_150 : decode cL_law 150 = .ok (.aload_n 0, 1) := by decide +kernel
theorem dL_law_151 : decode cL_law 151 = .ok (.bipush 7, 2) := by decide +kernel
theorem dL_law_153 : decode cL_law 153 = .ok (.iload 7, 2) := by decide +kernel
theorem dL_law_155 : decode cL_law 155 = .ok (.bipush 23, 2) := by decide +kernel
theorem dL_law_157 : decode cL_law 157 = .ok (.irem, 1) := by decide +kernel
theorem dL_law_158 : decode cL_law 158 = .ok (.iadd, 1) := by decide +kernel
theorem dL_law_159 : decode cL_law 159 = .ok (.invokestatic 12, 3) := by decide +kernel
theorem dL_law_162 : decode cL_law 162 = .ok (.iload 7, 2) := by decide +kernel
theorem dL_law_164 : decode cL_law 164 = .ok (.bipush 23, 2) := by decide +kernel
theorem dL_law_166 : decode cL_law 166 = .ok (.idiv, 1) := by decide +kernel
theorem dL_law_167 : decode cL_law 167 = .ok (.iconst 4, 1) := by decide +kernel
theorem dL_law_168 : decode cL_law 168 = .ok (.imul, 1) := by decide +kernel
theorem dL_law_169 : decode cL_law 169 = .ok (.ishr, 1) := by decide +kernel
theorem dL_law_170 : decode cL_law 170 = .ok (.istore 8, 2) := by decide +kernel
theorem dL_law_172 : decode cL_law 172 = .ok (.aload_n 1, 1) := by decide +kernel
theorem dL_law_173 : decode cL_law 173 = .ok (.iconst 4, 1) := by decide +kernel
theorem dL_law_174 : decode cL_law 174 = .ok (.invokevirtual 30, 3) := by decide +kernel
theorem dL_law_177 : decode cL_law 177 = .ok (.istore 9, 2) := by decide +kernel
theorem dL_law_179 : decode cL_law 179 = .ok (.iload 9, 2) := by decide +kernel
theorem dL_law_181 : decode cL_law 181 = .ok (.ifCond .ne 7, 3) := by decide +kernel
theorem dL_law_184 : decode cL_law 184 = .ok (.iconst (-1), 1) := by decide +kernel
theorem dL_law_185 : decode cL_law 185 = .ok (.goto 12, 3) := by decide +kernel
theorem dL_law_188 : decode cL_law 188 = .ok (.iload 8, 2) := by decide +kernel
theorem dL_law_190 : decode cL_law 190 = .ok (.iconst 4, 1) := by decide +kernel
theorem dL_law_191 : decode cL_law 191 = .ok (.ishr, 1) := by decide +kernel
theorem dL_law_192 : decode cL_law 192 = .ok (.iload 9, 2) := by decide +kernel
theorem dL_law_194 : decode cL_law 194 = .ok (.invokestatic 18, 3) := by decide +kernel
theorem dL_law_197 : decode cL_law 197 = .ok (.istore 10, 2) := by decide +kernel
theorem dL_law_199 : decode cL_law 199 = .ok (.iload 8, 2) := by decide +kernel
theorem dL_law_201 : decode cL_law 201 = .ok (.iconst 5, 1) := by decide +kernel
theorem dL_law_202 : decode cL_law 202 = .ok (.ishr, 1) := by decide +kernel
theorem dL_law_203 : decode cL_law 203 = .ok (.iload_n 3, 1) := by decide +kernel
theorem dL_law_204 : decode cL_law 204 = .ok (.invokestatic 18, 3) := by decide +kernel
theorem dL_law_207 : decode cL_law 207 = .ok (.istore 11, 2) := by decide +kernel
theorem dL_law_209 : decode cL_law 209 = .ok (.aload_n 1, 1) := by decide +kernel
theorem dL_law_210 : decode cL_law 210 = .ok (.iconst 1, 1) := by decide +kernel
theorem dL_law_211 : decode cL_law 211 = .ok (.invokevirtual 30, 3) := by decide +kernel
theorem dL_law_214 : decode cL_law 214 = .ok (.istore 12, 2) := by decide +kernel
theorem dL_law_216 : decode cL_law 216 = .ok (.aload_n 1, 1) := by decide +kernel
theorem dL_law_217 : decode cL_law 217 = .ok (.iconst 0, 1) := by decide +kernel
theorem dL_law_218 : decode cL_law 218 = .ok (.invokevirtual 30, 3) := by decide +kernel
theorem dL_law_221 : decode cL_law 221 = .ok (.istore 13, 2) := by decide +kernel
theorem dL_law_223 : decode cL_law 223 = .ok (.aload_n 1, 1) := by decide +kernel
theorem dL_law_224 : decode cL_law 224 = .ok (.bipush 6, 2) := by decide +kernel
theorem dL_law_226 : decode cL_law 226 = .ok (.invokevirtual 30, 3) := by decide +kernel
theorem dL_law_229 : decode cL_law 229 = .ok (.istore 14, 2) := by decide +kernel
theorem dL_law_231 : decode cL_law 231 = .ok (.aload_n 1, 1) := by decide +kernel
theorem dL_law_232 : decode cL_law 232 = .ok (.bipush 14, 2) := by decide +kernel
theorem dL_law_234 : decode cL_law 234 = .ok (.invokevirtual 30, 3) := by decide +kernel
theorem dL_law_237 : decode cL_law 237 = .ok (.istore 15, 2) := by decide +kernel
theorem dL_law_239 : decode cL_law 239 = .ok (.iload 8, 2) := by decide +kernel
theorem dL_law_241 : decode cL_law 241 = .ok (.bipush 20, 2) := by decide +kernel
theorem dL_law_243 : decode cL_law 243 = .ok (.invokestatic 18, 3) := by decide +kernel
theorem dL_law_246 : decode cL_law 246 = .ok (.tableswitch 1171 0 16 #[82, 82, 82, 173, 215, 284, 284, 284, 284, 449, 593, 651, 651, 651, 901, 1003, 1102], 82) := by decide +kernel
theorem dL_law_328 : decode cL_law 328 = .ok (.iload 9, 2) := by decide +kernel
theorem dL_law_330 : decode cL_law 330 = .ok (.bipush 16, 2) := by decide +kernel
theorem dL_law_332 : decode cL_law 332 = .ok (.if_icmp .ne 6, 3) := by decide +kernel
theorem dL_law_335 : decode cL_law 335 = .ok (.goto 1268, 3) := by decide +kernel
theorem dL_law_338 : decode cL_law 338 = .ok (.aload_n 1, 1) := by decide +kernel
theorem dL_law_339 : decode cL_law 339 = .ok (.iload 8, 2) := by decide +kernel
theorem dL_law_341 : decode cL_law 341 = .ok (.iconst 3, 1) := by decide +kernel
theorem dL_law_342 : decode cL_law 342 = .ok (.ishr, 1) := by decide +kernel
theorem dL_law_343 : decode cL_law 343 = .ok (.iload_n 2, 1) := by decide +kernel
theorem dL_law_344 : decode cL_law 344 = .ok (.invokestatic 18, 3) := by decide +kernel
theorem dL_law_347 : decode cL_law 347 = .ok (.iload 8, 2) := by decide +kernel
theorem dL_law_349 : decode cL_law 349 = .ok (.iconst 2, 1) := by decide +kernel
theorem dL_law_350 : decode cL_law 350 = .ok (.ishr, 1) := by decide +kernel
theorem dL_law_351 : decode cL_law 351 = .ok (.bipush 10, 2) := by decide +kernel
theorem dL_law_353 : decode cL_law 353 = .ok (.invokestatic 18, 3) := by decide +kernel
theorem dL_law_356 : decode cL_law 356 = .ok (.iload 8, 2) := by decide +kernel
theorem dL_law_358 : decode cL_law 358 = .ok (.iconst 4, 1) := by decide +kernel
theorem dL_law_359 : decode cL_law 359 = .ok (.ishr, 1) := by decide +kernel
theorem dL_law_360 : decode cL_law 360 = .ok (.iconst 3, 1) := by decide +kernel
theorem dL_law_361 : decode cL_law 361 = .ok (.invokestatic 18, 3) := by decide +kernel
theorem dL_law_364 : decode cL_law 364 = .ok (.bipush 60, 2) := by decide +kernel
theorem dL_law_366 : decode cL_law 366 = .ok (.iload 8, 2) := by decide +kernel
theorem dL_law_368 : decode cL_law 368 = .ok (.iconst 5, 1) := by decide +kernel
theorem dL_law_369 : decode cL_law 369 = .ok (.ishr, 1) := by decide +kernel
theorem dL_law_370 : decode cL_law 370 = .ok (.sipush 200, 3) := by decide +kernel
theorem dL_law_373 : decode cL_law 373 = .ok (.invokestatic 18, 3) := by decide +kernel
theorem dL_law_376 : decode cL_law 376 = .ok (.iadd, 1) := by decide +kernel
theorem dL_law_377 : decode cL_law 377 = .ok (.iload 8, 2) := by decide +kernel
theorem dL_law_379 : decode cL_law 379 = .ok (.bipush 6, 2) := by decide +kernel
theorem dL_law_381 : decode cL_law 381 = .ok (.ishr, 1) := by decide +kernel
theorem dL_law_382 : decode cL_law 382 = .ok (.bipush 61, 2) := by decide +kernel
theorem dL_law_384 : decode cL_law 384 = .ok (.invokestatic 18, 3) := by decide +kernel
theorem dL_law_387 : decode cL_law 387 = .ok (.iload 8, 2) := by decide +kernel
theorem dL_law_389 : decode cL_law 389 = .ok (.bipush 7, 2) := by decide +kernel
theorem dL_law_391 : decode cL_law 391 = .ok (.ishr, 1) := by decide +kernel
theorem dL_law_392 : decode cL_law 392 = .ok (.bipush 10, 2) := by decide +kernel
theorem dL_law_394 : decode cL_law 394 = .ok (.invokestatic 18, 3) := by decide +kernel
theorem dL_law_397 : decode cL_law 397 = .ok (.invokevirtual 34, 3) := by decide +kernel
theorem dL_law_400 : decode cL_law 400 = .ok (.iload 9, 2) := by decide +kernel
theorem dL_law_402 : decode cL_law 402 = .ok (.if_icmp .ne 15, 3) := by decide +kernel
theorem dL_law_405 : decode cL_law 405 = .ok (.aload_n 1, 1) := by decide +kernel
theorem dL_law_406 : decode cL_law 406 = .ok (.iload 11, 2) := by decide +kernel
theorem dL_law_408 : decode cL_law 408 = .ok (.iload 9, 2) := by decide +kernel
theorem dL_law_410 : decode cL_law 410 = .ok (.invokevirtual 38, 3) := by decide +kernel
theorem dL_law_413 : decode cL_law 413 = .ok (.iconst (-1), 1) := by decide +kernel
theorem dL_law_414 : decode cL_law 414 = .ok (.if_icmp .eq 1189, 3) := by decide +kernel
theorem dL_law_417 : decode cL_law 417 = .ok (.iconst 0, 1) := by decide +kernel
theorem dL_law_418 : decode cL_law 418 = .ok (.ireturn, 1) := by decide +kernel
theorem dL_law_419 : decode cL_law 419 = .ok (.iload 8, 2) := by decide +kernel
theorem dL_law_421 : decode cL_law 421 = .ok (.bipush 6, 2) := by decide +kernel
theorem dL_law_423 : decode cL_law 423 = .ok (.ishr, 1) := by decide +kernel
theorem dL_law_424 : decode cL_law 424 = .ok (.iconst 3, 1) := by decide +kernel
theorem dL_law_425 : decode cL_law 425 = .ok (.invokestatic 18, 3) := by decide +kernel
theorem dL_law_428 : decode cL_law 428 = .ok (.ifCond .ne 1175, 3) := by decide +kernel
theorem dL_law_431 : decode cL_law 431 = .ok (.aload_n 1, 1) := by decide +kernel
theorem dL_law_432 : decode cL_law 432 = .ok (.iload 11, 2) := by decide +kernel
theorem dL_law_434 : decode cL_law 434 = .ok (.iload 8, 2) := by decide +kernel
theorem dL_law_436 : decode cL_law 436 = .ok (.iconst 3, 1) := by decide +kernel
theorem dL_law_437 : decode cL_law 437 = .ok (.ishr, 1) := by decide +kernel
theorem dL_law_438 : decode cL_law 438 = .ok (.bipush 10, 2) := by decide +kernel
theorem dL_law_440 : decode cL_law 440 = .ok (.invokestatic 18, 3) := by decide +kernel
theorem dL_law_443 : decode cL_law 443 = .ok (.invokevirtual 41, 3) := by decide +kernel
theorem dL_law_446 : decode cL_law 446 = .ok (.aload_n 1, 1) := by decide +kernel
theorem dL_law_447 : decode cL_law 447 = .ok (.iload 11, 2) := by decide +kernel
theorem dL_law_449 : decode cL_law 449 = .ok (.iconst 1, 1) := by decide +kernel
theorem dL_law_450 : decode cL_law 450 = .ok (.invokevirtual 44, 3) := by decide +kernel
theorem dL_law_453 : decode cL_law 453 = .ok (.invokestatic 47, 3) := by decide +kernel
theorem dL_law_456 : decode cL_law 456 = .ok (.if_icmp .eq 1147, 3) := by decide +kernel
theorem dL_law_459 : decode cL_law 459 = .ok (.iconst 0, 1) := by decide +kernel
theorem dL_law_460 : decode cL_law 460 = .ok (.ireturn, 1) := by decide +kernel
theorem dL_law_461 : decode cL_law 461 = .ok (.aload_n 1, 1) := by decide +kernel
theorem dL_law_462 : decode cL_law 462 = .ok (.iconst 1, 1) := by decide +kernel
theorem dL_law_463 : decode cL_law 463 = .ok (.iload 8, 2) := by decide +kernel
theorem dL_law_465 : decode cL_law 465 = .ok (.iconst 3, 1) := by decide +kernel
theorem dL_law_466 : decode cL_law 466 = .ok (.ishr, 1) := by decide +kernel
theorem dL_law_467 : decode cL_law 467 = .ok (.bipush 7, 2) := by decide +kernel
theorem dL_law_469 : decode cL_law 469 = .ok (.invokestatic 18, 3) := by decide +kernel
theorem dL_law_472 : decode cL_law 472 = .ok (.iadd, 1) := by decide +kernel
theorem dL_law_473 : decode cL_law 473 = .ok (.bipush 50, 2) := by decide +kernel
theorem dL_law_475 : decode cL_law 475 = .ok (.iload 8, 2) := by decide +kernel
theorem dL_law_477 : decode cL_law 477 = .ok (.iconst 4, 1) := by decide +kernel
theorem dL_law_478 : decode cL_law 478 = .ok (.ishr, 1) := by decide +kernel
theorem dL_law_479 : decode cL_law 479 = .ok (.bipush 60, 2) := by decide +kernel
theorem dL_law_481 : decode cL_law 481 = .ok (.invokestatic 18, 3) := by decide +kernel
theorem dL_law_484 : decode cL_law 484 = .ok (.iadd, 1) := by decide +kernel
theorem dL_law_485 : decode cL_law 485 = .ok (.sipush 150, 3) := by decide +kernel
theorem dL_law_488 : decode cL_law 488 = .ok (.iload 8, 2) := by decide +kernel
theorem dL_law_490 : decode cL_law 490 = .ok (.iconst 5, 1) := by decide +kernel
theorem dL_law_491 : decode cL_law 491 = .ok (.ishr, 1) := by decide +kernel
theorem dL_law_492 : decode cL_law 492 = .ok (.sipush 700, 3) := by decide +kernel
theorem dL_law_495 : decode cL_law 495 = .ok (.invokestatic 18, 3) := by decide +kernel
theorem dL_law_498 : decode cL_law 498 = .ok (.iadd, 1) := by decide +kernel
theorem dL_law_499 : decode cL_law 499 = .ok (.iload 8, 2) := by decide +kernel
theorem dL_law_501 : decode cL_law 501 = .ok (.bipush 6, 2) := by decide +kernel
theorem dL_law_503 : decode cL_law 503 = .ok (.ishr, 1) := by decide +kernel
theorem dL_law_504 : decode cL_law 504 = .ok (.bipush 51, 2) := by decide +kernel
theorem dL_law_506 : decode cL_law 506 = .ok (.invokestatic 18, 3) := by decide +kernel
theorem dL_law_509 : decode cL_law 509 = .ok (.invokevirtual 52, 3) := by decide +kernel
theorem dL_law_512 : decode cL_law 512 = .ok (.iload 15, 2) := by decide +kernel
theorem dL_law_514 : decode cL_law 514 = .ok (.if_icmp .ne 14, 3) := by decide +kernel
theorem dL_law_517 : decode cL_law 517 = .ok (.aload_n 1, 1) := by decide +kernel
theorem dL_law_518 : decode cL_law 518 = .ok (.bipush 14, 2) := by decide +kernel
theorem dL_law_520 : decode cL_law 520 = .ok (.invokevirtual 30, 3) := by decide +kernel
theorem dL_law_523 : decode cL_law 523 = .ok (.iload 15, 2) := by decide +kernel
theorem dL_law_525 : decode cL_law 525 = .ok (.if_icmp .eq 1078, 3) := by decide +kernel
theorem dL_law_528 : decode cL_law 528 = .ok (.iconst 0, 1) := by decide +kernel
theorem dL_law_529 : decode cL_law 529 = .ok (.ireturn, 1) := by decide +kernel
theorem dL_law_530 : decode cL_law 530 = .ok (.iload 10, 2) := by decide +kernel
theorem dL_law_532 : decode cL_law 532 = .ok (.ifCond .lt 1071, 3) := by decide +kernel
theorem dL_law_535 : decode cL_law 535 = .ok (.iload 12, 2) := by decide +kernel
theorem dL_law_537 : decode cL_law 537 = .ok (.ifCond .ne 1066, 3) := by decide +kernel
theorem dL_law_540 : decode cL_law 540 = .ok (.aload_n 1, 1) := by decide +kernel
theorem dL_law_541 : decode cL_law 541 = .ok (.iload 10, 2) := by decide +kernel
theorem dL_law_543 : decode cL_law 543 = .ok (.bipush 6, 2) := by decide +kernel
theorem dL_law_545 : decode cL_law 545 = .ok (.invokevirtual 56, 3) := by decide +kernel
theorem dL_law_548 : decode cL_law 548 = .ok (.iconst 1, 1) := by decide +kernel
theorem dL_law_549 : decode cL_law 549 = .ok (.if_icmp .ne 6, 3) := by decide +kernel
theorem dL_law_552 : decode cL_law 552 = .ok (.goto 1051, 3) := by decide +kernel
theorem dL_law_555 : decode cL_law 555 = .ok (.aload_n 1, 1) := by decide +kernel
theorem dL_law_556 : decode cL_law 556 = .ok (.iload 10, 2) := by decide +kernel
theorem dL_law_558 : decode cL_law 558 = .ok (.iconst 5, 1) := by decide +kernel
theorem dL_law_559 : decode cL_law 559 = .ok (.invokevirtual 56, 3) := by decide +kernel
theorem dL_law_562 : decode cL_law 562 = .ok (.iconst 1, 1) := by decide +kernel
theorem dL_law_563 : decode cL_law 563 = .ok (.if_icmp .ne 7, 3) := by decide +kernel
theorem dL_law_566 : decode cL_law 566 = .ok (.iconst 1, 1) := by decide +kernel
theorem dL_law_567 : decode cL_law 567 = .ok (.goto 4, 3) := by decide +kernel
theorem dL_law_570 : decode cL_law 570 = .ok (.iconst 0, 1) := by decide +kernel
theorem dL_law_571 : decode cL_law 571 = .ok (.istore 16, 2) := by decide +kernel
theorem dL_law_573 : decode cL_law 573 = .ok (.aload_n 1, 1) := by decide +kernel
theorem dL_law_574 : decode cL_law 574 = .ok (.iload 10, 2) := by decide +kernel
theorem dL_law_576 : decode cL_law 576 = .ok (.iconst 0, 1) := by decide +kernel
theorem dL_law_577 : decode cL_law 577 = .ok (.invokevirtual 56, 3) := by decide +kernel
theorem dL_law_580 : decode cL_law 580 = .ok (.istore 17, 2) := by decide +kernel
theorem dL_law_582 : decode cL_law 582 = .ok (.aload_n 1, 1) := by decide +kernel
theorem dL_law_583 : decode cL_law 583 = .ok (.iload 17, 2) := by decide +kernel
theorem dL_law_585 : decode cL_law 585 = .ok (.iconst 2, 1) := by decide +kernel
theorem dL_law_586 : decode cL_law 586 = .ok (.invokevirtual 59, 3) := by decide +kernel
theorem dL_law_589 : decode cL_law 589 = .ok (.aload_n 1, 1) := by decide +kernel
theorem dL_law_590 : decode cL_law 590 = .ok (.iload 17, 2) := by decide +kernel
theorem dL_law_592 : decode cL_law 592 = .ok (.iconst 1, 1) := by decide +kernel
theorem dL_law_593 : decode cL_law 593 = .ok (.invokevirtual 59, 3) := by decide +kernel
theorem dL_law_596 : decode cL_law 596 = .ok (.if_icmp .ge 7, 3) := by decide +kernel
theorem dL_law_599 : decode cL_law 599 = .ok (.iconst 1, 1) := by decide +kernel
theorem dL_law_600 : decode cL_law 600 = .ok (.goto 4, 3) := by decide +kernel
theorem dL_law_603 : decode cL_law 603 = .ok (.iconst 0, 1) := by decide +kernel
theorem dL_law_604 : decode cL_law 604 = .ok (.istore 18, 2) := by decide +kernel
theorem dL_law_606 : decode cL_law 606 = .ok (.aload_n 1, 1) := by decide +kernel
theorem dL_law_607 : decode cL_law 607 = .ok (.iload 10, 2) := by decide +kernel
theorem dL_law_609 : decode cL_law 609 = .ok (.invokevirtual 62, 3) := by decide +kernel
theorem dL_law_612 : decode cL_law 612 = .ok (.istore 19, 2) := by decide +kernel
theorem dL_law_614 : decode cL_law 614 = .ok (.iload 19, 2) := by decide +kernel
theorem dL_law_616 : decode cL_law 616 = .ok (.iload 16, 2) := by decide +kernel
theorem dL_law_618 : decode cL_law 618 = .ok (.ifCond .ne 8, 3) := by decide +kernel
theorem dL_law_621 : decode cL_law 621 = .ok (.bipush (-2), 2) := by decide +kernel
theorem dL_law_623 : decode cL_law 623 = .ok (.goto 17, 3) := by decide +kernel
theorem dL_law_626 : decode cL_law 626 = .ok (.iload 18, 2) := by decide +kernel
theorem dL_law_628 : decode cL_law 628 = .ok (.ifCond .eq 10, 3) := by decide +kernel
theorem dL_law_631 : decode cL_law 631 = .ok (.iload 14, 2) := by decide +kernel
theorem dL_law_633 : decode cL_law 633 = .ok (.iconst 1, 1) := by decide +kernel
theorem dL_law_634 : decode cL_law 634 = .ok (.iadd, 1) := by decide +kernel
theorem dL_law_635 : decode cL_law 635 = .ok (.goto 5, 3) := by decide +kernel
theorem dL_law_638 : decode cL_law 638 = .ok (.bipush (-3), 2) := by decide +kernel
theorem dL_law_640 : decode cL_law 640 = .ok (.if_icmp .ne 29, 3) := by decide +kernel
theorem dL_law_643 : decode cL_law 643 = .ok (.aload_n 1, 1) := by decide +kernel
theorem dL_law_644 : decode cL_law 644 = .ok (.iload 10, 2) := by decide +kernel
theorem dL_law_646 : decode cL_law 646 = .ok (.bipush 6, 2) := by decide +kernel
theorem dL_law_648 : decode cL_law 648 = .ok (.invokevirtual 56, 3) := by decide +kernel
theorem dL_law_651 : decode cL_law 651 = .ok (.iload 16, 2) := by decide +kernel
theorem dL_law_653 : decode cL_law 653 = .ok (.ifCond .eq 12, 3) := by decide +kernel
theorem dL_law_656 : decode cL_law 656 = .ok (.iload 18, 2) := by decide +kernel
theorem dL_law_658 : decode cL_law 658 = .ok (.ifCond .eq 7, 3) := by decide +kernel
theorem dL_law_661 : decode cL_law 661 = .ok (.iconst 1, 1) := by decide +kernel
theorem dL_law_662 : decode cL_law 662 = .ok (.goto 4, 3) := by decide +kernel
theorem dL_law_665 : decode cL_law 665 = .ok (.iconst 0, 1) := by decide +kernel
theorem dL_law_666 : decode cL_law 666 = .ok (.if_icmp .eq 5, 3) := by decide +kernel
theorem dL_law_669 : decode cL_law 669 = .ok (.iconst 0, 1) := by decide +kernel
theorem dL_law_670 : decode cL_law 670 = .ok (.ireturn, 1) := by decide +kernel
theorem dL_law_671 : decode cL_law 671 = .ok (.iload 4, 2) := by decide +kernel
theorem dL_law_673 : decode cL_law 673 = .ok (.iload 16, 2) := by decide +kernel
theorem dL_law_675 : decode cL_law 675 = .ok (.ifCond .eq 13, 3) := by decide +kernel
theorem dL_law_678 : decode cL_law 678 = .ok (.iload 18, 2) := by decide +kernel
theorem dL_law_680 : decode cL_law 680 = .ok (.ifCond .eq 8, 3) := by decide +kernel
theorem dL_law_683 : decode cL_law 683 = .ok (.iload 15, 2) := by decide +kernel
theorem dL_law_685 : decode cL_law 685 = .ok (.goto 4, 3) := by decide +kernel
theorem dL_law_688 : decode cL_law 688 = .ok (.iconst 0, 1) := by decide +kernel
theorem dL_law_689 : decode cL_law 689 = .ok (.iadd, 1) := by decide +kernel
theorem dL_law_690 : decode cL_law 690 = .ok (.istore 4, 2) := by decide +kernel
theorem dL_law_692 : decode cL_law 692 = .ok (.goto 911, 3) := by decide +kernel
theorem dL_law_695 : decode cL_law 695 = .ok (.iload 10, 2) := by decide +kernel
theorem dL_law_697 : decode cL_law 697 = .ok (.ifCond .lt 906, 3) := by decide +kernel
theorem dL_law_700 : decode cL_law 700 = .ok (.iload 12, 2) := by decide +kernel
theorem dL_law_702 : decode cL_law 702 = .ok (.ifCond .ne 901, 3) := by decide +kernel
theorem dL_law_705 : decode cL_law 705 = .ok (.aload_n 1, 1) := by decide +kernel
theorem dL_law_706 : decode cL_law 706 = .ok (.iload 10, 2) := by decide +kernel
theorem dL_law_708 : decode cL_law 708 = .ok (.bipush 6, 2) := by decide +kernel
theorem dL_law_710 : decode cL_law 710 = .ok (.invokevirtual 56, 3) := by decide +kernel
theorem dL_law_713 : decode cL_law 713 = .ok (.iconst 1, 1) := by decide +kernel
theorem dL_law_714 : decode cL_law 714 = .ok (.if_icmp .ne 6, 3) := by decide +kernel
theorem dL_law_717 : decode cL_law 717 = .ok (.goto 886, 3) := by decide +kernel
theorem dL_law_720 : decode cL_law 720 = .ok (.aload_n 1, 1) := by decide +kernel
theorem dL_law_721 : decode cL_law 721 = .ok (.iload 10, 2) := by decide +kernel
theorem dL_law_723 : decode cL_law 723 = .ok (.iconst 5, 1) := by decide +kernel
theorem dL_law_724 : decode cL_law 724 = .ok (.invokevirtual 56, 3) := by decide +kernel
theorem dL_law_727 : decode cL_law 727 = .ok (.iconst 1, 1) := by decide +kernel
theorem dL_law_728 : decode cL_law 728 = .ok (.if_icmp .ne 27, 3) := by decide +kernel
theorem dL_law_731 : decode cL_law 731 = .ok (.aload_n 1, 1) := by decide +kernel
theorem dL_law_732 : decode cL_law 732 = .ok (.iload 11, 2) := by decide +kernel
theorem dL_law_734 : decode cL_law 734 = .ok (.iconst 1, 1) := by decide +kernel
theorem dL_law_735 : decode cL_law 735 = .ok (.invokevirtual 44, 3) := by decide +kernel
theorem dL_law_738 : decode cL_law 738 = .ok (.aload_n 1, 1) := by decide +kernel
theorem dL_law_739 : decode cL_law 739 = .ok (.iload 10, 2) := by decide +kernel
theorem dL_law_741 : decode cL_law 741 = .ok (.iconst 1, 1) := by decide +kernel
theorem dL_law_742 : decode cL_law 742 = .ok (.invokevirtual 56, 3) := by decide +kernel
theorem dL_law_745 : decode cL_law 745 = .ok (.ishr, 1) := by decide +kernel
theorem dL_law_746 : decode cL_law 746 = .ok (.iconst 1, 1) := by decide +kernel
theorem dL_law_747 : decode cL_law 747 = .ok (.iand, 1) := by decide +kernel
theorem dL_law_748 : decode cL_law 748 = .ok (.ifCond .ne 7, 3) := by decide +kernel
theorem dL_law_751 : decode cL_law 751 = .ok (.iconst 1, 1) := by decide +kernel
theorem dL_law_752 : decode cL_law 752 = .ok (.goto 4, 3) := by decide +kernel
theorem dL_law_755 : decode cL_law 755 = .ok (.iconst 0, 1) := by decide +kernel
theorem dL_law_756 : decode cL_law 756 = .ok (.istore 16, 2) := by decide +kernel
theorem dL_law_758 : decode cL_law 758 = .ok (.aload_n 1, 1) := by decide +kernel
theorem dL_law_759 : decode cL_law 759 = .ok (.iload 11, 2) := by decide +kernel
theorem dL_law_761 : decode cL_law 761 = .ok (.iload 10, 2) := by decide +kernel
theorem dL_law_763 : decode cL_law 763 = .ok (.invokevirtual 65, 3) := by decide +kernel
theorem dL_law_766 : decode cL_law 766 = .ok (.istore 17, 2) := by decide +kernel
theorem dL_law_768 : decode cL_law 768 = .ok (.iload 17, 2) := by decide +kernel
theorem dL_law_770 : decode cL_law 770 = .ok (.ifCond .lt 20, 3) := by decide +kernel
theorem dL_law_773 : decode cL_law 773 = .ok (.iload 16, 2) := by decide +kernel
theorem dL_law_775 : decode cL_law 775 = .ok (.ifCond .eq 26, 3) := by decide +kernel
theorem dL_law_778 : decode cL_law 778 = .ok (.iload 17, 2) := by decide +kernel
theorem dL_law_780 : decode cL_law 780 = .ok (.iload 14, 2) := by decide +kernel
theorem dL_law_782 : decode cL_law 782 = .ok (.iconst 1, 1) := by decide +kernel
theorem dL_law_783 : decode cL_law 783 = .ok (.iadd, 1) := by decide +kernel
theorem dL_law_784 : decode cL_law 784 = .ok (.if_icmp .eq 19, 3) := by decide +kernel
theorem dL_law_787 : decode cL_law 787 = .ok (.goto 14, 3) := by decide +kernel
theorem dL_law_790 : decode cL_law 790 = .ok (.aload_n 1, 1) := by decide +kernel
theorem dL_law_791 : decode cL_law 791 = .ok (.iload 10, 2) := by decide +kernel
theorem dL_law_793 : decode cL_law 793 = .ok (.bipush 6, 2) := by decide +kernel
theorem dL_law_795 : decode cL_law 795 = .ok (.invokevirtual 56, 3) := by decide +kernel
theorem dL_law_798 : decode cL_law 798 = .ok (.ifCond .eq 5, 3) := by decide +kernel
theorem dL_law_801 : decode cL_law 801 = .ok (.iconst 0, 1) := by decide +kernel
theorem dL_law_802 : decode cL_law 802 = .ok (.ireturn, 1) := by decide +kernel
theorem dL_law_803 : decode cL_law 803 = .ok (.iload 4, 2) := by decide +kernel
theorem dL_law_805 : decode cL_law 805 = .ok (.iload 17, 2) := by decide +kernel
theorem dL_law_807 : decode cL_law 807 = .ok (.ifCond .lt 10, 3) := by decide +kernel
theorem dL_law_810 : decode cL_law 810 = .ok (.iload 15, 2) := by decide +kernel
theorem dL_law_812 : decode cL_law 812 = .ok (.iconst 2, 1) := by decide +kernel
theorem dL_law_813 : decode cL_law 813 = .ok (.idiv, 1) := by decide +kernel
theorem dL_law_814 : decode cL_law 814 = .ok (.goto 4, 3) := by decide +kernel
theorem dL_law_817 : decode cL_law 817 = .ok (.iconst 0, 1) := by decide +kernel
theorem dL_law_818 : decode cL_law 818 = .ok (.iadd, 1) := by decide +kernel
theorem dL_law_819 : decode cL_law 819 = .ok (.istore 4, 2) := by decide +kernel
theorem dL_law_821 : decode cL_law 821 = .ok (.iload 6, 2) := by decide +kernel
theorem dL_law_823 : decode cL_law 823 = .ok (.iload 17, 2) := by decide +kernel
theorem dL_law_825 : decode cL_law 825 = .ok (.ifCond .lt 7, 3) := by decide +kernel
theorem dL_law_828 : decode cL_law 828 = .ok (.iconst 1, 1) := by decide +kernel
theorem dL_law_829 : decode cL_law 829 = .ok (.goto 4, 3) := by decide +kernel
theorem dL_law_832 : decode cL_law 832 = .ok (.iconst 0, 1) := by decide +kernel
theorem dL_law_833 : decode cL_law 833 = .ok (.iadd, 1) := by decide +kernel
theorem dL_law_834 : decode cL_law 834 = .ok (.istore 6, 2) := by decide +kernel
theorem dL_law_836 : decode cL_law 836 = .ok (.goto 767, 3) := by decide +kernel
theorem dL_law_839 : decode cL_law 839 = .ok (.iload 10, 2) := by decide +kernel
theorem dL_law_841 : decode cL_law 841 = .ok (.ifCond .ge 6, 3) := by decide +kernel
theorem dL_law_844 : decode cL_law 844 = .ok (.goto 759, 3) := by decide +kernel
theorem dL_law_847 : decode cL_law 847 = .ok (.iconst 1, 1) := by decide +kernel
theorem dL_law_848 : decode cL_law 848 = .ok (.iload 8, 2) := by decide +kernel
theorem dL_law_850 : decode cL_law 850 = .ok (.iconst 3, 1) := by decide +kernel
theorem dL_law_851 : decode cL_law 851 = .ok (.ishr, 1) := by decide +kernel
theorem dL_law_852 : decode cL_law 852 = .ok (.bipush 90, 2) := by decide +kernel
