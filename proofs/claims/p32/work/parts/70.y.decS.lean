theorem dL_isSo_0 : decode cL_isSo 0 = .ok (.aload_n 0, 1) := by decide +kernel
theorem dL_isSo_1 : decode cL_isSo 1 = .ok (.iconst 1, 1) := by decide +kernel
theorem dL_isSo_2 : decode cL_isSo 2 = .ok (.invokevirtual 30, 3) := by decide +kernel
theorem dL_isSo_5 : decode cL_isSo 5 = .ok (.istore_n 3, 1) := by decide +kernel
theorem dL_isSo_6 : decode cL_isSo 6 = .ok (.aload_n 0, 1) := by decide +kernel
theorem dL_isSo_7 : decode cL_isSo 7 = .ok (.iconst 4, 1) := by decide +kernel
theorem dL_isSo_8 : decode cL_isSo 8 = .ok (.invokevirtual 30, 3) := by decide +kernel
theorem dL_isSo_11 : decode cL_isSo 11 = .ok (.istore 4, 2) := by decide +kernel
theorem dL_isSo_13 : decode cL_isSo 13 = .ok (.iconst 0, 1) := by decide +kernel
theorem dL_isSo_14 : decode cL_isSo 14 = .ok (.istore 5, 2) := by decide +kernel
theorem dL_isSo_16 : decode cL_isSo 16 = .ok (.iconst 0, 1) := by decide +kernel
theorem dL_isSo_17 : decode cL_isSo 17 = .ok (.istore 6, 2) := by decide +kernel
theorem dL_isSo_19 : decode cL_isSo 19 = .ok (.iconst 0, 1) := by decide +kernel
theorem dL_isSo_20 : decode cL_isSo 20 = .ok (.istore 7, 2) := by decide +kernel
theorem dL_isSo_22 : decode cL_isSo 22 = .ok (.iconst 0, 1) := by decide +kernel
theorem dL_isSo_23 : decode cL_isSo 23 = .ok (.istore 8, 2) := by decide +kernel
theorem dL_isSo_25 : decode cL_isSo 25 = .ok (.iconst 0, 1) := by decide +kernel
theorem dL_isSo_26 : decode cL_isSo 26 = .ok (.istore 9, 2) := by decide +kernel
theorem dL_isSo_28 : decode cL_isSo 28 = .ok (.iconst 0, 1) := by decide +kernel
theorem dL_isSo_29 : decode cL_isSo 29 = .ok (.istore 10, 2) := by decide +kernel
theorem dL_isSo_31 : decode cL_isSo 31 = .ok (.iconst 0, 1) := by decide +kernel
theorem dL_isSo_32 : decode cL_isSo 32 = .ok (.istore 11, 2) := by decide +kernel
theorem dL_isSo_34 : decode cL_isSo 34 = .ok (.iload_n 1, 1) := by decide +kernel
theorem dL_isSo_35 : decode cL_isSo 35 = .ok (.newarray .int, 2) := by decide +kernel
theorem dL_isSo_37 : decode cL_isSo 37 = .ok (.astore 12, 2) := by decide +kernel
theorem dL_isSo_39 : decode cL_isSo 39 = .ok (.iconst 0, 1) := by decide +kernel
theorem dL_isSo_40 : decode cL_isSo 40 = .ok (.istore 13, 2) := by decide +kernel
theorem dL_isSo_42 : decode cL_isSo 42 = .ok (.iload 13, 2) := by decide +kernel
theorem dL_isSo_44 : decode cL_isSo 44 = .ok (.iload 4, 2) := by decide +kernel
theorem dL_isSo_46 : decode cL_isSo 46 = .ok (.if_icmp .ge 364, 3) := by decide +kernel
theorem dL_isSo_49 : decode cL_isSo 49 = .ok (.aload_n 0, 1) := by decide +kernel
theorem dL_isSo_50 : decode cL_isSo 50 = .ok (.iload 13, 2) := by decide +kernel
theorem dL_isSo_52 : decode cL_isSo 52 = .ok (.bipush 7, 2) := by decide +kernel
theorem dL_isSo_54 : decode cL_isSo 54 = .ok (.invokevirtual 56, 3) := by decide +kernel
theorem dL_isSo_57 : decode cL_isSo 57 = .ok (.istore 14, 2) := by decide +kernel
theorem dL_isSo_59 : decode cL_isSo 59 = .ok (.iconst 0, 1) := by decide +kernel
theorem dL_isSo_60 : decode cL_isSo 60 = .ok (.istore 15, 2) := by decide +kernel
theorem dL_isSo_62 : decode cL_isSo 62 = .ok (.iconst 0, 1) := by decide +kernel
theorem dL_isSo_63 : decode cL_isSo 63 = .ok (.istore 16, 2) := by decide +kernel
theorem dL_isSo_65 : decode cL_isSo 65 = .ok (.iconst 0, 1) := by decide +kernel
theorem dL_isSo_66 : decode cL_isSo 66 = .ok (.istore 17, 2) := by decide +kernel
theorem dL_isSo_68 : decode cL_isSo 68 = .ok (.iload 17, 2) := by decide +kernel
theorem dL_isSo_70 : decode cL_isSo 70 = .ok (.iload_n 2, 1) := by decide +kernel
theorem dL_isSo_71 : decode cL_isSo 71 = .ok (.if_icmp .ge 111, 3) := by decide +kernel
theorem dL_isSo_74 : decode cL_isSo 74 = .ok (.aload_n 0, 1) := by decide +kernel
theorem dL_isSo_75 : decode cL_isSo 75 = .ok (.iload 17, 2) := by decide +kernel
theorem dL_isSo_77 : decode cL_isSo 77 = .ok (.iload 13, 2) := by decide +kernel
theorem dL_isSo_79 : decode cL_isSo 79 = .ok (.invokevirtual 38, 3) := by decide +kernel
theorem dL_isSo_82 : decode cL_isSo 82 = .ok (.istore 18, 2) := by decide +kernel
theorem dL_isSo_84 : decode cL_isSo 84 = .ok (.iload 18, 2) := by decide +kernel
theorem dL_isSo_86 : decode cL_isSo 86 = .ok (.bipush 99, 2) := by decide +kernel
theorem dL_isSo_88 : decode cL_isSo 88 = .ok (.if_icmp .gt 25, 3) := by decide +kernel
theorem dL_isSo_91 : decode cL_isSo 91 = .ok (.iload 18, 2) := by decide +kernel
theorem dL_isSo_93 : decode cL_isSo 93 = .ok (.iconst (-1), 1) := by decide +kernel
theorem dL_isSo_94 : decode cL_isSo 94 = .ok (.if_icmp .lt 19, 3) := by decide +kernel
theorem dL_isSo_97 : decode cL_isSo 97 = .ok (.iload 18, 2) := by decide +kernel
theorem dL_isSo_99 : decode cL_isSo 99 = .ok (.ifCond .lt 16, 3) := by decide +kernel
theorem dL_isSo_102 : decode cL_isSo 102 = .ok (.aload_n 0, 1) := by decide +kernel
theorem dL_isSo_103 : decode cL_isSo 103 = .ok (.iload 13, 2) := by decide +kernel
theorem dL_isSo_105 : decode cL_isSo 105 = .ok (.bipush 6, 2) := by decide +kernel
theorem dL_isSo_107 : decode cL_isSo 107 = .ok (.invokevirtual 56, 3) := by decide +kernel
theorem dL_isSo_110 : decode cL_isSo 110 = .ok (.ifCond .ne 5, 3) := by decide +kernel
theorem dL_isSo_113 : decode cL_isSo 113 = .ok (.iconst 0, 1) := by decide +kernel
theorem dL_isSo_114 : decode cL_isSo 114 = .ok (.ireturn, 1) := by decide +kernel
theorem dL_isSo_115 : decode cL_isSo 115 = .ok (.iload 16, 2) := by decide +kernel
theorem dL_isSo_117 : decode cL_isSo 117 = .ok (.iload 18, 2) := by decide +kernel
theorem dL_isSo_119 : decode cL_isSo 119 = .ok (.ifCond .ge 7, 3) := by decide +kernel
theorem dL_isSo_122 : decode cL_isSo 122 = .ok (.iconst 0, 1) := by decide +kernel
theorem dL_isSo_123 : decode cL_isSo 123 = .ok (.goto 4, 3) := by decide +kernel
theorem dL_isSo_126 : decode cL_isSo 126 = .ok (.iconst 1, 1) := by decide +kernel
theorem dL_isSo_127 : decode cL_isSo 127 = .ok (.iadd, 1) := by decide +kernel
theorem dL_isSo_128 : decode cL_isSo 128 = .ok (.istore 16, 2) := by decide +kernel
theorem dL_isSo_130 : decode cL_isSo 130 = .ok (.iload 9, 2) := by decide +kernel
theorem dL_isSo_132 : decode cL_isSo 132 = .ok (.iconst 0, 1) := by decide +kernel
theorem dL_isSo_133 : decode cL_isSo 133 = .ok (.iload 18, 2) := by decide +kernel
theorem dL_isSo_135 : decode cL_isSo 135 = .ok (.invokestatic 110, 3) := by decide +kernel
theorem dL_isSo_138 : decode cL_isSo 138 = .ok (.iadd, 1) := by decide +kernel
theorem dL_isSo_139 : decode cL_isSo 139 = .ok (.istore 9, 2) := by decide +kernel
theorem dL_isSo_141 : decode cL_isSo 141 = .ok (.iload 15, 2) := by decide +kernel
theorem dL_isSo_143 : decode cL_isSo 143 = .ok (.iload 18, 2) := by decide +kernel
theorem dL_isSo_145 : decode cL_isSo 145 = .ok (.ifCond .lt 27, 3) := by decide +kernel
theorem dL_isSo_148 : decode cL_isSo 148 = .ok (.aload_n 0, 1) := by decide +kernel
theorem dL_isSo_149 : decode cL_isSo 149 = .ok (.iload 17, 2) := by decide +kernel
theorem dL_isSo_151 : decode cL_isSo 151 = .ok (.iconst 1, 1) := by decide +kernel
theorem dL_isSo_152 : decode cL_isSo 152 = .ok (.invokevirtual 44, 3) := by decide +kernel
theorem dL_isSo_155 : decode cL_isSo 155 = .ok (.aload_n 0, 1) := by decide +kernel
theorem dL_isSo_156 : decode cL_isSo 156 = .ok (.iload 13, 2) := by decide +kernel
theorem dL_isSo_158 : decode cL_isSo 158 = .ok (.iconst 1, 1) := by decide +kernel
theorem dL_isSo_159 : decode cL_isSo 159 = .ok (.invokevirtual 56, 3) := by decide +kernel
theorem dL_isSo_162 : decode cL_isSo 162 = .ok (.ishr, 1) := by decide +kernel
theorem dL_isSo_163 : decode cL_isSo 163 = .ok (.iconst 1, 1) := by decide +kernel
theorem dL_isSo_164 : decode cL_isSo 164 = .ok (.iand, 1) := by decide +kernel
theorem dL_isSo_165 : decode cL_isSo 165 = .ok (.ifCond .ne 7, 3) := by decide +kernel
theorem dL_isSo_168 : decode cL_isSo 168 = .ok (.iconst 1, 1) := by decide +kernel
theorem dL_isSo_169 : decode cL_isSo 169 = .ok (.goto 4, 3) := by decide +kernel
theorem dL_isSo_172 : decode cL_isSo 172 = .ok (.iconst 0, 1) := by decide +kernel
theorem dL_isSo_173 : decode cL_isSo 173 = .ok (.iadd, 1) := by decide +kernel
theorem dL_isSo_174 : decode cL_isSo 174 = .ok (.istore 15, 2) := by decide +kernel
theorem dL_isSo_176 : decode cL_isSo 176 = .ok (.iinc 17 1, 3) := by decide +kernel
theorem dL_isSo_179 : decode cL_isSo 179 = .ok (.goto (-111), 3) := by decide +kernel
theorem dL_isSo_182 : decode cL_isSo 182 = .ok (.iload 8, 2) := by decide +kernel
theorem dL_isSo_184 : decode cL_isSo 184 = .ok (.iload 16, 2) := by decide +kernel
theorem dL_isSo_186 : decode cL_isSo 186 = .ok (.iadd, 1) := by decide +kernel
theorem dL_isSo_187 : decode cL_isSo 187 = .ok (.istore 8, 2) := by decide +kernel
theorem dL_isSo_189 : decode cL_isSo 189 = .ok (.iload 5, 2) := by decide +kernel
theorem dL_isSo_191 : decode cL_isSo 191 = .ok (.aload_n 0, 1) := by decide +kernel
theorem dL_isSo_192 : decode cL_isSo 192 = .ok (.iload 13, 2) := by decide +kernel
theorem dL_isSo_194 : decode cL_isSo 194 = .ok (.bipush 6, 2) := by decide +kernel
theorem dL_isSo_196 : decode cL_isSo 196 = .ok (.invokevirtual 56, 3) := by decide +kernel
theorem dL_isSo_199 : decode cL_isSo 199 = .ok (.iadd, 1) := by decide +kernel
theorem dL_isSo_200 : decode cL_isSo 200 = .ok (.istore 5, 2) := by decide +kernel
theorem dL_isSo_202 : decode cL_isSo 202 = .ok (.iload 6, 2) := by decide +kernel
theorem dL_isSo_204 : decode cL_isSo 204 = .ok (.aload_n 0, 1) := by decide +kernel
theorem dL_isSo_205 : decode cL_isSo 205 = .ok (.iload 13, 2) := by decide +kernel
theorem dL_isSo_207 : decode cL_isSo 207 = .ok (.iconst 3, 1) := by decide +kernel
theorem dL_isSo_208 : decode cL_isSo 208 = .ok (.invokevirtual 56, 3) := by decide +kernel
theorem dL_isSo_211 : decode cL_isSo 211 = .ok (.iadd, 1) := by decide +kernel
theorem dL_isSo_212 : decode cL_isSo 212 = .ok (.istore 6, 2) := by decide +kernel
theorem dL_isSo_214 : decode cL_isSo 214 = .ok (.iload 7, 2) := by decide +kernel
theorem dL_isSo_216 : decode cL_isSo 216 = .ok (.aload_n 0, 1) := by decide +kernel
theorem dL_isSo_217 : decode cL_isSo 217 = .ok (.iload 13, 2) := by decide +kernel
theorem dL_isSo_219 : decode cL_isSo 219 = .ok (.iconst 4, 1) := by decide +kernel
theorem dL_isSo_220 : decode cL_isSo 220 = .ok (.invokevirtual 56, 3) := by decide +kernel
theorem dL_isSo_223 : decode cL_isSo 223 = .ok (.iadd, 1) := by decide +kernel
theorem dL_isSo_224 : decode cL_isSo 224 = .ok (.istore 7, 2) := by decide +kernel
theorem dL_isSo_226 : decode cL_isSo 226 = .ok (.iload 10, 2) := by decide +kernel
theorem dL_isSo_228 : decode cL_isSo 228 = .ok (.iload 14, 2) := by decide +kernel
theorem dL_isSo_230 : decode cL_isSo 230 = .ok (.ifCond .le 10, 3) := by decide +kernel
theorem dL_isSo_233 : decode cL_isSo 233 = .ok (.iconst 1, 1) := by decide +kernel
theorem dL_isSo_234 : decode cL_isSo 234 = .ok (.iload 13, 2) := by decide +kernel
theorem dL_isSo_236 : decode cL_isSo 236 = .ok (.ishl, 1) := by decide +kernel
theorem dL_isSo_237 : decode cL_isSo 237 = .ok (.goto 4, 3) := by decide +kernel
theorem dL_isSo_240 : decode cL_isSo 240 = .ok (.iconst 0, 1) := by decide +kernel
theorem dL_isSo_241 : decode cL_isSo 241 = .ok (.ior, 1) := by decide +kernel
theorem dL_isSo_242 : decode cL_isSo 242 = .ok (.istore 10, 2) := by decide +kernel
theorem dL_isSo_244 : decode cL_isSo 244 = .ok (.iload 11, 2) := by decide +kernel
theorem dL_isSo_246 : decode cL_isSo 246 = .ok (.iload 14, 2) := by decide +kernel
theorem dL_isSo_248 : decode cL_isSo 248 = .ok (.iconst 1, 1) := by decide +kernel
theorem dL_isSo_249 : decode cL_isSo 249 = .ok (.if_icmp .le 10, 3) := by decide +kernel
theorem dL_isSo_252 : decode cL_isSo 252 = .ok (.iconst 1, 1) := by decide +kernel
theorem dL_isSo_253 : decode cL_isSo 253 = .ok (.iload 13, 2) := by decide +kernel
theorem dL_isSo_255 : decode cL_isSo 255 = .ok (.ishl, 1) := by decide +kernel
theorem dL_isSo_256 : decode cL_isSo 256 = .ok (.goto 4, 3) := by decide +kernel
theorem dL_isSo_259 : decode cL_isSo 259 = .ok (.iconst 0, 1) := by decide +kernel
theorem dL_isSo_260 : decode cL_isSo 260 = .ok (.ior, 1) := by decide +kernel
theorem dL_isSo_261 : decode cL_isSo 261 = .ok (.istore 11, 2) := by decide +kernel
theorem dL_isSo_263 : decode cL_isSo 263 = .ok (.iload 14, 2) := by decide +kernel
theorem dL_isSo_265 : decode cL_isSo 265 = .ok (.ifCond .le 17, 3) := by decide +kernel
theorem dL_isSo_268 : decode cL_isSo 268 = .ok (.aload 12, 2) := by decide +kernel
theorem dL_isSo_270 : decode cL_isSo 270 = .ok (.aload_n 0, 1) := by decide +kernel
theorem dL_isSo_271 : decode cL_isSo 271 = .ok (.iload 13, 2) := by decide +kernel
theorem dL_isSo_273 : decode cL_isSo 273 = .ok (.iconst 0, 1) := by decide +kernel
theorem dL_isSo_274 : decode cL_isSo 274 = .ok (.invokevirtual 56, 3) := by decide +kernel
theorem dL_isSo_277 : decode cL_isSo 277 = .ok (.dup2, 1) := by decide +kernel
theorem dL_isSo_278 : decode cL_isSo 278 = .ok (.iaload, 1) := by decide +kernel
theorem dL_isSo_279 : decode cL_isSo 279 = .ok (.iconst 1, 1) := by decide +kernel
theorem dL_isSo_280 : decode cL_isSo 280 = .ok (.iadd, 1) := by decide +kernel
theorem dL_isSo_281 : decode cL_isSo 281 = .ok (.iastore, 1) := by decide +kernel
theorem dL_isSo_282 : decode cL_isSo 282 = .ok (.iload 16, 2) := by decide +kernel
theorem dL_isSo_284 : decode cL_isSo 284 = .ok (.iconst 3, 1) := by decide +kernel
theorem dL_isSo_285 : decode cL_isSo 285 = .ok (.if_icmp .gt 88, 3) := by decide +kernel
theorem dL_isSo_288 : decode cL_isSo 288 = .ok (.iload 15, 2) := by decide +kernel
theorem dL_isSo_290 : decode cL_isSo 290 = .ok (.aload_n 0, 1) := by decide +kernel
theorem dL_isSo_291 : decode cL_isSo 291 = .ok (.iload 13, 2) := by decide +kernel
theorem dL_isSo_293 : decode cL_isSo 293 = .ok (.bipush 9, 2) := by decide +kernel
theorem dL_isSo_295 : decode cL_isSo 295 = .ok (.invokevirtual 56, 3) := by decide +kernel
theorem dL_isSo_298 : decode cL_isSo 298 = .ok (.if_icmp .ne 75, 3) := by decide +kernel
theorem dL_isSo_301 : decode cL_isSo 301 = .ok (.iload 15, 2) := by decide +kernel
theorem dL_isSo_303 : decode cL_isSo 303 = .ok (.ifCond .ne 14, 3) := by decide +kernel
theorem dL_isSo_306 : decode cL_isSo 306 = .ok (.aload_n 0, 1) := by decide +kernel
theorem dL_isSo_307 : decode cL_isSo 307 = .ok (.iload 13, 2) := by decide +kernel
theorem dL_isSo_309 : decode cL_isSo 309 = .ok (.bipush 8, 2) := by decide +kernel
theorem dL_isSo_311 : decode cL_isSo 311 = .ok (.invokevirtual 56, 3) := by decide +kernel
theorem dL_isSo_314 : decode cL_isSo 314 = .ok (.ifCond .ne 59, 3) := by decide +kernel
theorem dL_isSo_317 : decode cL_isSo 317 = .ok (.iload 14, 2) := by decide +kernel
theorem dL_isSo_319 : decode cL_isSo 319 = .ok (.ifCond .le 14, 3) := by decide +kernel
theorem dL_isSo_322 : decode cL_isSo 322 = .ok (.aload_n 0, 1) := by decide +kernel
theorem dL_isSo_323 : decode cL_isSo 323 = .ok (.iload 13, 2) := by decide +kernel
theorem dL_isSo_325 : decode cL_isSo 325 = .ok (.bipush 6, 2) := by decide +kernel
theorem dL_isSo_327 : decode cL_isSo 327 = .ok (.invokevirtual 56, 3) := by decide +kernel
theorem dL_isSo_330 : decode cL_isSo 330 = .ok (.ifCond .eq 43, 3) := by decide +kernel
theorem dL_isSo_333 : decode cL_isSo 333 = .ok (.iload 14, 2) := by decide +kernel
theorem dL_isSo_335 : decode cL_isSo 335 = .ok (.iconst 3, 1) := by decide +kernel
theorem dL_isSo_336 : decode cL_isSo 336 = .ok (.if_icmp .ne 7, 3) := by decide +kernel
theorem dL_isSo_339 : decode cL_isSo 339 = .ok (.iconst 1, 1) := by decide +kernel
theorem dL_isSo_340 : decode cL_isSo 340 = .ok (.goto 4, 3) := by decide +kernel
theorem dL_isSo_343 : decode cL_isSo 343 = .ok (.iconst 0, 1) := by decide +kernel
theorem dL_isSo_344 : decode cL_isSo 344 = .ok (.aload_n 0, 1) := by decide +kernel
theorem dL_isSo_345 : decode cL_isSo 345 = .ok (.bipush 9, 2) := by decide +kernel
theorem dL_isSo_347 : decode cL_isSo 347 = .ok (.invokevirtual 30, 3) := by decide +kernel
theorem dL_isSo_350 : decode cL_isSo 350 = .ok (.iload 13, 2) := by decide +kernel
theorem dL_isSo_352 : decode cL_isSo 352 = .ok (.if_icmp .ne 7, 3) := by decide +kernel
theorem dL_isSo_355 : decode cL_isSo 355 = .ok (.iconst 1, 1) := by decide +kernel
theorem dL_isSo_356 : decode cL_isSo 356 = .ok (.goto 4, 3) := by decide +kernel
theorem dL_isSo_359 : decode cL_isSo 359 = .ok (.iconst 0, 1) := by decide +kernel
theorem dL_isSo_360 : decode cL_isSo 360 = .ok (.if_icmp .ne 13, 3) := by decide +kernel
theorem dL_isSo_363 : decode cL_isSo 363 = .ok (.aload_n 0, 1) := by decide +kernel
theorem dL_isSo_364 : decode cL_isSo 364 = .ok (.iload 13, 2) := by decide +kernel
theorem dL_isSo_366 : decode cL_isSo 366 = .ok (.iconst 2, 1) := by decide +kernel
theorem dL_isSo_367 : decode cL_isSo 367 = .ok (.invokevirtual 56, 3) := by decide +kernel
theorem dL_isSo_370 : decode cL_isSo 370 = .ok (.ifCond .ge 5, 3) := by decide +kernel
theorem dL_isSo_373 : decode cL_isSo 373 = .ok (.iconst 0, 1) := by decide +kernel
theorem dL_isSo_374 : decode cL_isSo 374 = .ok (.ireturn, 1) := by decide +kernel
theorem dL_isSo_375 : decode cL_isSo 375 = .ok (.aload_n 0, 1) := by decide +kernel
theorem dL_isSo_376 : decode cL_isSo 376 = .ok (.iload 13, 2) := by decide +kernel
theorem dL_isSo_378 : decode cL_isSo 378 = .ok (.invokevirtual 98, 3) := by decide +kernel
theorem dL_isSo_381 : decode cL_isSo 381 = .ok (.iload 13, 2) := by decide +kernel
theorem dL_isSo_383 : decode cL_isSo 383 = .ok (.if_icmp .eq 19, 3) := by decide +kernel
theorem dL_isSo_386 : decode cL_isSo 386 = .ok (.iload 14, 2) := by decide +kernel
theorem dL_isSo_388 : decode cL_isSo 388 = .ok (.iconst 2, 1) := by decide +kernel
theorem dL_isSo_389 : decode cL_isSo 389 = .ok (.if_icmp .ge 15, 3) := by decide +kernel
theorem dL_isSo_392 : decode cL_isSo 392 = .ok (.aload_n 0, 1) := by decide +kernel
theorem dL_isSo_393 : decode cL_isSo 393 = .ok (.iload 13, 2) := by decide +kernel
theorem dL_isSo_395 : decode cL_isSo 395 = .ok (.invokevirtual 98, 3) := by decide +kernel
theorem dL_isSo_398 : decode cL_isSo 398 = .ok (.iconst (-1), 1) := by decide +kernel
theorem dL_isSo_399 : decode cL_isSo 399 = .ok (.if_icmp .eq 5, 3) := by decide +kernel
theorem dL_isSo_402 : decode cL_isSo 402 = .ok (.iconst 0, 1) := by decide +kernel
theorem dL_isSo_403 : decode cL_isSo 403 = .ok (.ireturn, 1) := by decide +kernel
theorem dL_isSo_404 : decode cL_isSo 404 = .ok (.iinc 13 1, 3) := by decide +kernel
theorem dL_isSo_407 : decode cL_isSo 407 = .ok (.goto (-365), 3) := by decide +kernel
theorem dL_isSo_410 : decode cL_isSo 410 = .ok (.iconst 0, 1) := by decide +kernel
theorem dL_isSo_411 : decode cL_isSo 411 = .ok (.istore 13, 2) := by decide +kernel
theorem dL_isSo_413 : decode cL_isSo 413 = .ok (.iload 13, 2) := by decide +kernel
theorem dL_isSo_415 : decode cL_isSo 415 = .ok (.iload_n 1, 1) := by decide +kernel
theorem dL_isSo_416 : decode cL_isSo 416 = .ok (.if_icmp .ge 69, 3) := by decide +kernel
theorem dL_isSo_419 : decode cL_isSo 419 = .ok (.aload 12, 2) := by decide +kernel
theorem dL_isSo_421 : decode cL_isSo 421 = .ok (.iload 13, 2) := by decide +kernel
theorem dL_isSo_423 : decode cL_isSo 423 = .ok (.iaload, 1) := by decide +kernel
theorem dL_isSo_424 : decode cL_isSo 424 = .ok (.iconst 2, 1) := by decide +kernel
theorem dL_isSo_425 : decode cL_isSo 425 = .ok (.if_icmp .gt 52, 3) := by decide +kernel
theorem dL_isSo_428 : decode cL_isSo 428 = .ok (.aload_n 0, 1) := by decide +kernel
theorem dL_isSo_429 : decode cL_isSo 429 = .ok (.iload 13, 2) := by decide +kernel
theorem dL_isSo_431 : decode cL_isSo 431 = .ok (.iconst 1, 1) := by decide +kernel
theorem dL_isSo_432 : decode cL_isSo 432 = .ok (.invokevirtual 59, 3) := by decide +kernel
theorem dL_isSo_435 : decode cL_isSo 435 = .ok (.iconst 2, 1) := by decide +kernel
theorem dL_isSo_436 : decode cL_isSo 436 = .ok (.if_icmp .lt 41, 3) := by decide +kernel
theorem dL_isSo_439 : decode cL_isSo 439 = .ok (.aload_n 0, 1) := by decide +kernel
theorem dL_isSo_440 : decode cL_isSo 440 = .ok (.iload 13, 2) := by decide +kernel
theorem dL_isSo_442 : decode cL_isSo 442 = .ok (.iconst 1, 1) := by decide +kernel
theorem dL_isSo_443 : decode cL_isSo 443 = .ok (.invokevirtual 59, 3) := by decide +kernel
theorem dL_isSo_446 : decode cL_isSo 446 = .ok (.iconst 4, 1) := by decide +kernel
theorem dL_isSo_447 : decode cL_isSo 447 = .ok (.if_icmp .gt 30, 3) := by decide +kernel
theorem dL_isSo_450 : decode cL_isSo 450 = .ok (.aload_n 0, 1) := by decide +kernel
theorem dL_isSo_451 : decode cL_isSo 451 = .ok (.iload 13, 2) := by decide +kernel
theorem dL_isSo_453 : decode cL_isSo 453 = .ok (.iconst 2, 1) := by decide +kernel
theorem dL_isSo_454 : decode cL_isSo 454 = .ok (.invokevirtual 59, 3) := by decide +kernel
theorem dL_isSo_457 : decode cL_isSo 457 = .ok (.aload_n 0, 1) := by decide +kernel
theorem dL_isSo_458 : decode cL_isSo 458 = .ok (.iload 13, 2) := by decide +kernel
theorem dL_isSo_460 : decode cL_isSo 460 = .ok (.iconst 1, 1) := by decide +kernel
theorem dL_isSo_461 : decode cL_isSo 461 = .ok (.invokevirtual 59, 3) := by decide +kernel
theorem dL_isSo_464 : decode cL_isSo 464 = .ok (.if_icmp .gt 13, 3) := by decide +kernel
theorem dL_isSo_467 : decode cL_isSo 467 = .ok (.aload_n 0, 1) := by decide +kernel
theorem dL_isSo_468 : decode cL_isSo 468 = .ok (.iload 13, 2) := by decide +kernel
theorem dL_isSo_470 : decode cL_isSo 470 = .ok (.iconst 4, 1) := by decide +kernel
theorem dL_isSo_471 : decode cL_isSo 471 = .ok (.invokevirtual 59, 3) := by decide +kernel
theorem dL_isSo_474 : decode cL_isSo 474 = .ok (.ifCond .ge 5, 3) := by decide +kernel
theorem dL_isSo_477 : decode cL_isSo 477 = .ok (.iconst 0, 1) := by decide +kernel
theorem dL_isSo_478 : decode cL_isSo 478 = .ok (.ireturn, 1) := by decide +kernel
theorem dL_isSo_479 : decode cL_isSo 479 = .ok (.iinc 13 1, 3) := by decide +kernel
theorem dL_isSo_482 : decode cL_isSo 482 = .ok (.goto (-69), 3) := by decide +kernel
theorem dL_isSo_485 : decode cL_isSo 485 = .ok (.iconst 0, 1) := by decide +kernel
theorem dL_isSo_486 : decode cL_isSo 486 = .ok (.istore 13, 2) := by decide +kernel
theorem dL_isSo_488 : decode cL_isSo 488 = .ok (.iconst 0, 1) := by decide +kernel
theorem dL_isSo_489 : decode cL_isSo 489 = .ok (.istore 14, 2) := by decide +kernel
theorem dL_isSo_491 : decode cL_isSo 491 = .ok (.iload 14, 2) := by decide +kernel
theorem dL_isSo_493 : decode cL_isSo 493 = .ok (.iload_n 2, 1) := by decide +kernel
theorem dL_isSo_494 : decode cL_isSo 494 = .ok (.if_icmp .ge 144, 3) := by decide +kernel
theorem dL_isSo_497 : decode cL_isSo 497 = .ok (.iload 13, 2) := by decide +kernel
theorem dL_isSo_499 : decode cL_isSo 499 = .ok (.aload_n 0, 1) := by decide +kernel
theorem dL_isSo_500 : decode cL_isSo 500 = .ok (.iload 14, 2) := by decide +kernel
theorem dL_isSo_502 : decode cL_isSo 502 = .ok (.iconst 4, 1) := by decide +kernel
theorem dL_isSo_503 : decode cL_isSo 503 = .ok (.invokevirtual 44, 3) := by decide +kernel
theorem dL_isSo_506 : decode cL_isSo 506 = .ok (.iadd, 1) := by decide +kernel
theorem dL_isSo_507 : decode cL_isSo 507 = .ok (.istore 13, 2) := by decide +kernel
theorem dL_isSo_509 : decode cL_isSo 509 = .ok (.aload_n 0, 1) := by decide +kernel
theorem dL_isSo_510 : decode cL_isSo 510 = .ok (.iload 14, 2) := by decide +kernel
theorem dL_isSo_512 : decode cL_isSo 512 = .ok (.iconst 4, 1) := by decide +kernel
theorem dL_isSo_513 : decode cL_isSo 513 = .ok (.invokevirtual 44, 3) := by decide +kernel
theorem dL_isSo_516 : decode cL_isSo 516 = .ok (.aload_n 0, 1) := by decide +kernel
theorem dL_isSo_517 : decode cL_isSo 517 = .ok (.iload 14, 2) := by decide +kernel
theorem dL_isSo_519 : decode cL_isSo 519 = .ok (.iconst 2, 1) := by decide +kernel
theorem dL_isSo_520 : decode cL_isSo 520 = .ok (.invokevirtual 44, 3) := by decide +kernel
theorem dL_isSo_523 : decode cL_isSo 523 = .ok (.if_icmp .gt 107, 3) := by decide +kernel
theorem dL_isSo_526 : decode cL_isSo 526 = .ok (.aload_n 0, 1) := by decide +kernel
theorem dL_isSo_527 : decode cL_isSo 527 = .ok (.iload 14, 2) := by decide +kernel
theorem dL_isSo_529 : decode cL_isSo 529 = .ok (.iconst 3, 1) := by decide +kernel
theorem dL_isSo_530 : decode cL_isSo 530 = .ok (.invokevirtual 44, 3) := by decide +kernel
theorem dL_isSo_533 : decode cL_isSo 533 = .ok (.ifCond .lt 97, 3) := by decide +kernel
theorem dL_isSo_536 : decode cL_isSo 536 = .ok (.aload_n 0, 1) := by decide +kernel
theorem dL_isSo_537 : decode cL_isSo 537 = .ok (.iload 14, 2) := by decide +kernel
theorem dL_isSo_539 : decode cL_isSo 539 = .ok (.bipush 7, 2) := by decide +kernel
theorem dL_isSo_541 : decode cL_isSo 541 = .ok (.invokevirtual 44, 3) := by decide +kernel
theorem dL_isSo_544 : decode cL_isSo 544 = .ok (.ifCond .lt 86, 3) := by decide +kernel
theorem dL_isSo_547 : decode cL_isSo 547 = .ok (.aload_n 0, 1) := by decide +kernel
theorem dL_isSo_548 : decode cL_isSo 548 = .ok (.iload 14, 2) := by decide +kernel
theorem dL_isSo_550 : decode cL_isSo 550 = .ok (.bipush 7, 2) := by decide +kernel
theorem dL_isSo_552 : decode cL_isSo 552 = .ok (.invokevirtual 44, 3) := by decide +kernel
theorem dL_isSo_555 : decode cL_isSo 555 = .ok (.bipush 12, 2) := by decide +kernel
theorem dL_isSo_557 : decode cL_isSo 557 = .ok (.if_icmp .gt 73, 3) := by decide +kernel
theorem dL_isSo_560 : decode cL_isSo 560 = .ok (.aload_n 0, 1) := by decide +kernel
theorem dL_isSo_561 : decode cL_isSo 561 = .ok (.iload 14, 2) := by decide +kernel
theorem dL_isSo_563 : decode cL_isSo 563 = .ok (.iconst 3, 1) := by decide +kernel
theorem dL_isSo_564 : decode cL_isSo 564 = .ok (.invokevirtual 44, 3) := by decide +kernel
theorem dL_isSo_567 : decode cL_isSo 567 = .ok (.ifCond .ne 7, 3) := by decide +kernel
theorem dL_isSo_570 : decode cL_isSo 570 = .ok (.iconst 1, 1) := by decide +kernel
theorem dL_isSo_571 : decode cL_isSo 571 = .ok (.goto 4, 3) := by decide +kernel
theorem dL_isSo_574 : decode cL_isSo 574 = .ok (.iconst 0, 1) := by decide +kernel
theorem dL_isSo_575 : decode cL_isSo 575 = .ok (.aload_n 0, 1) := by decide +kernel
theorem dL_isSo_576 : decode cL_isSo 576 = .ok (.iload 14, 2) := by decide +kernel
theorem dL_isSo_578 : decode cL_isSo 578 = .ok (.iconst 4, 1) := by decide +kernel
theorem dL_isSo_579 : decode cL_isSo 579 = .ok (.invokevirtual 44, 3) := by decide +kernel
theorem dL_isSo_582 : decode cL_isSo 582 = .ok (.aload_n 0, 1) := by decide +kernel
theorem dL_isSo_583 : decode cL_isSo 583 = .ok (.iload 14, 2) := by decide +kernel
theorem dL_isSo_585 : decode cL_isSo 585 = .ok (.iconst 2, 1) := by decide +kernel
theorem dL_isSo_586 : decode cL_isSo 586 = .ok (.invokevirtual 44, 3) := by decide +kernel
theorem dL_isSo_589 : decode cL_isSo 589 = .ok (.if_icmp .ne 7, 3) := by decide +kernel
theorem dL_isSo_592 : decode cL_isSo 592 = .ok (.iconst 1, 1) := by decide +kernel
theorem dL_isSo_593 : decode cL_isSo 593 = .ok (.goto 4, 3) := by decide +kernel
theorem dL_isSo_596 : decode cL_isSo 596 = .ok (.iconst 0, 1) := by decide +kernel
theorem dL_isSo_597 : decode cL_isSo 597 = .ok (.if_icmp .ne 33, 3) := by decide +kernel
theorem dL_isSo_600 : decode cL_isSo 600 = .ok (.iload_n 3, 1) := by decide +kernel
theorem dL_isSo_601 : decode cL_isSo 601 = .ok (.ifCond .ne 13, 3) := by decide +kernel
theorem dL_isSo_604 : decode cL_isSo 604 = .ok (.aload_n 0, 1) := by decide +kernel
theorem dL_isSo_605 : decode cL_isSo 605 = .ok (.iload 14, 2) := by decide +kernel
theorem dL_isSo_607 : decode cL_isSo 607 = .ok (.iconst 2, 1) := by decide +kernel
theorem dL_isSo_608 : decode cL_isSo 608 = .ok (.invokevirtual 44, 3) := by decide +kernel
theorem dL_isSo_611 : decode cL_isSo 611 = .ok (.ifCond .ne 19, 3) := by decide +kernel
theorem dL_isSo_614 : decode cL_isSo 614 = .ok (.iload_n 3, 1) := by decide +kernel
theorem dL_isSo_615 : decode cL_isSo 615 = .ok (.iconst 3, 1) := by decide +kernel
theorem dL_isSo_616 : decode cL_isSo 616 = .ok (.if_icmp .ge 16, 3) := by decide +kernel
theorem dL_isSo_619 : decode cL_isSo 619 = .ok (.aload_n 0, 1) := by decide +kernel
theorem dL_isSo_620 : decode cL_isSo 620 = .ok (.iload 14, 2) := by decide +kernel
theorem dL_isSo_622 : decode cL_isSo 622 = .ok (.bipush 6, 2) := by decide +kernel
theorem dL_isSo_624 : decode cL_isSo 624 = .ok (.invokevirtual 44, 3) := by decide +kernel
theorem dL_isSo_627 : decode cL_isSo 627 = .ok (.ifCond .eq 5, 3) := by decide +kernel
theorem dL_isSo_630 : decode cL_isSo 630 = .ok (.iconst 0, 1) := by decide +kernel
theorem dL_isSo_631 : decode cL_isSo 631 = .ok (.ireturn, 1) := by decide +kernel
theorem dL_isSo_632 : decode cL_isSo 632 = .ok (.iinc 14 1, 3) := by decide +kernel
theorem dL_isSo_635 : decode cL_isSo 635 = .ok (.goto (-144), 3) := by decide +kernel
theorem dL_isSo_638 : decode cL_isSo 638 = .ok (.iload 13, 2) := by decide +kernel
theorem dL_isSo_640 : decode cL_isSo 640 = .ok (.iload 8, 2) := by decide +kernel
theorem dL_isSo_642 : decode cL_isSo 642 = .ok (.if_icmp .ne 125, 3) := by decide +kernel
theorem dL_isSo_645 : decode cL_isSo 645 = .ok (.aload_n 0, 1) := by decide +kernel
theorem dL_isSo_646 : decode cL_isSo 646 = .ok (.bipush 6, 2) := by decide +kernel
theorem dL_isSo_648 : decode cL_isSo 648 = .ok (.invokevirtual 30, 3) := by decide +kernel
theorem dL_isSo_651 : decode cL_isSo 651 = .ok (.iload 5, 2) := by decide +kernel
theorem dL_isSo_653 : decode cL_isSo 653 = .ok (.if_icmp .ne 114, 3) := by decide +kernel
theorem dL_isSo_656 : decode cL_isSo 656 = .ok (.aload_n 0, 1) := by decide +kernel
theorem dL_isSo_657 : decode cL_isSo 657 = .ok (.bipush 12, 2) := by decide +kernel
theorem dL_isSo_659 : decode cL_isSo 659 = .ok (.invokevirtual 30, 3) := by decide +kernel
theorem dL_isSo_662 : decode cL_isSo 662 = .ok (.iload 6, 2) := by decide +kernel
theorem dL_isSo_664 : decode cL_isSo 664 = .ok (.if_icmp .ne 103, 3) := by decide +kernel
theorem dL_isSo_667 : decode cL_isSo 667 = .ok (.aload_n 0, 1) := by decide +kernel
theorem dL_isSo_668 : decode cL_isSo 668 = .ok (.bipush 13, 2) := by decide +kernel
theorem dL_isSo_670 : decode cL_isSo 670 = .ok (.invokevirtual 30, 3) := by decide +kernel
theorem dL_isSo_673 : decode cL_isSo 673 = .ok (.iload 7, 2) := by decide +kernel
theorem dL_isSo_675 : decode cL_isSo 675 = .ok (.if_icmp .ne 92, 3) := by decide +kernel
theorem dL_isSo_678 : decode cL_isSo 678 = .ok (.aload_n 0, 1) := by decide +kernel
theorem dL_isSo_679 : decode cL_isSo 679 = .ok (.bipush 7, 2) := by decide +kernel
theorem dL_isSo_681 : decode cL_isSo 681 = .ok (.invokevirtual 30, 3) := by decide +kernel
theorem dL_isSo_684 : decode cL_isSo 684 = .ok (.iload 10, 2) := by decide +kernel
theorem dL_isSo_686 : decode cL_isSo 686 = .ok (.if_icmp .ne 81, 3) := by decide +kernel
theorem dL_isSo_689 : decode cL_isSo 689 = .ok (.aload_n 0, 1) := by decide +kernel
theorem dL_isSo_690 : decode cL_isSo 690 = .ok (.bipush 8, 2) := by decide +kernel
theorem dL_isSo_692 : decode cL_isSo 692 = .ok (.invokevirtual 30, 3) := by decide +kernel
theorem dL_isSo_695 : decode cL_isSo 695 = .ok (.iload 11, 2) := by decide +kernel
theorem dL_isSo_697 : decode cL_isSo 697 = .ok (.if_icmp .ne 70, 3) := by decide +kernel
theorem dL_isSo_700 : decode cL_isSo 700 = .ok (.iload 11, 2) := by decide +kernel
theorem dL_isSo_702 : decode cL_isSo 702 = .ok (.iload 10, 2) := by decide +kernel
theorem dL_isSo_704 : decode cL_isSo 704 = .ok (.iconst (-1), 1) := by decide +kernel
theorem dL_isSo_705 : decode cL_isSo 705 = .ok (.ixor, 1) := by decide +kernel
theorem dL_isSo_706 : decode cL_isSo 706 = .ok (.iand, 1) := by decide +kernel
theorem dL_isSo_707 : decode cL_isSo 707 = .ok (.ifCond .ne 60, 3) := by decide +kernel
theorem dL_isSo_710 : decode cL_isSo 710 = .ok (.iload_n 3, 1) := by decide +kernel
theorem dL_isSo_711 : decode cL_isSo 711 = .ok (.iconst 2, 1) := by decide +kernel
theorem dL_isSo_712 : decode cL_isSo 712 = .ok (.if_icmp .ge 8, 3) := by decide +kernel
theorem dL_isSo_715 : decode cL_isSo 715 = .ok (.iload 10, 2) := by decide +kernel
theorem dL_isSo_717 : decode cL_isSo 717 = .ok (.ifCond .ne 50, 3) := by decide +kernel
theorem dL_isSo_720 : decode cL_isSo 720 = .ok (.iload_n 3, 1) := by decide +kernel
theorem dL_isSo_721 : decode cL_isSo 721 = .ok (.iconst 3, 1) := by decide +kernel
theorem dL_isSo_722 : decode cL_isSo 722 = .ok (.if_icmp .ge 8, 3) := by decide +kernel
theorem dL_isSo_725 : decode cL_isSo 725 = .ok (.iload 11, 2) := by decide +kernel
theorem dL_isSo_727 : decode cL_isSo 727 = .ok (.ifCond .ne 40, 3) := by decide +kernel
theorem dL_isSo_730 : decode cL_isSo 730 = .ok (.iload_n 3, 1) := by decide +kernel
theorem dL_isSo_731 : decode cL_isSo 731 = .ok (.iconst 4, 1) := by decide +kernel
theorem dL_isSo_732 : decode cL_isSo 732 = .ok (.if_icmp .ge 13, 3) := by decide +kernel
theorem dL_isSo_735 : decode cL_isSo 735 = .ok (.aload_n 0, 1) := by decide +kernel
theorem dL_isSo_736 : decode cL_isSo 736 = .ok (.bipush 9, 2) := by decide +kernel
theorem dL_isSo_738 : decode cL_isSo 738 = .ok (.invokevirtual 30, 3) := by decide +kernel
theorem dL_isSo_741 : decode cL_isSo 741 = .ok (.iconst (-1), 1) := by decide +kernel
theorem dL_isSo_742 : decode cL_isSo 742 = .ok (.if_icmp .ne 25, 3) := by decide +kernel
theorem dL_isSo_745 : decode cL_isSo 745 = .ok (.aload_n 0, 1) := by decide +kernel
theorem dL_isSo_746 : decode cL_isSo 746 = .ok (.invokevirtual 123, 3) := by decide +kernel
theorem dL_isSo_749 : decode cL_isSo 749 = .ok (.iload 8, 2) := by decide +kernel
theorem dL_isSo_751 : decode cL_isSo 751 = .ok (.i2d, 1) := by decide +kernel
theorem dL_isSo_752 : decode cL_isSo 752 = .ok (.dmul, 1) := by decide +kernel
theorem dL_isSo_753 : decode cL_isSo 753 = .ok (.iload 9, 2) := by decide +kernel
theorem dL_isSo_755 : decode cL_isSo 755 = .ok (.i2d, 1) := by decide +kernel
theorem dL_isSo_756 : decode cL_isSo 756 = .ok (.dsub, 1) := by decide +kernel
theorem dL_isSo_757 : decode cL_isSo 757 = .ok (.invokestatic 127, 3) := by decide +kernel
theorem dL_isSo_760 : decode cL_isSo 760 = .ok (.ldc2_w 131, 3) := by decide +kernel
theorem dL_isSo_763 : decode cL_isSo 763 = .ok (.dcmp .l, 1) := by decide +kernel
theorem dL_isSo_764 : decode cL_isSo 764 = .ok (.ifCond .le 5, 3) := by decide +kernel
theorem dL_isSo_767 : decode cL_isSo 767 = .ok (.iconst 0, 1) := by decide +kernel
theorem dL_isSo_768 : decode cL_isSo 768 = .ok (.ireturn, 1) := by decide +kernel
theorem dL_isSo_769 : decode cL_isSo 769 = .ok (.aload_n 0, 1) := by decide +kernel
theorem dL_isSo_770 : decode cL_isSo 770 = .ok (.iconst 0, 1) := by decide +kernel
theorem dL_isSo_771 : decode cL_isSo 771 = .ok (.invokevirtual 89, 3) := by decide +kernel
theorem dL_isSo_774 : decode cL_isSo 774 = .ok (.istore 14, 2) := by decide +kernel
theorem dL_isSo_776 : decode cL_isSo 776 = .ok (.aload_n 0, 1) := by decide +kernel
theorem dL_isSo_777 : decode cL_isSo 777 = .ok (.invokevirtual 133, 3) := by decide +kernel
theorem dL_isSo_780 : decode cL_isSo 780 = .ok (.istore 15, 2) := by decide +kernel
theorem dL_isSo_782 : decode cL_isSo 782 = .ok (.iload 14, 2) := by decide +kernel
theorem dL_isSo_784 : decode cL_isSo 784 = .ok (.ifCond .lt 13, 3) := by decide +kernel
theorem dL_isSo_787 : decode cL_isSo 787 = .ok (.iload 11, 2) := by decide +kernel
theorem dL_isSo_789 : decode cL_isSo 789 = .ok (.iload 14, 2) := by decide +kernel
theorem dL_isSo_791 : decode cL_isSo 791 = .ok (.ishr, 1) := by decide +kernel
theorem dL_isSo_792 : decode cL_isSo 792 = .ok (.iconst 1, 1) := by decide +kernel
theorem dL_isSo_793 : decode cL_isSo 793 = .ok (.iand, 1) := by decide +kernel
theorem dL_isSo_794 : decode cL_isSo 794 = .ok (.ifCond .eq 50, 3) := by decide +kernel
theorem dL_isSo_797 : decode cL_isSo 797 = .ok (.iload 15, 2) := by decide +kernel
theorem dL_isSo_799 : decode cL_isSo 799 = .ok (.ifCond .lt 13, 3) := by decide +kernel
theorem dL_isSo_802 : decode cL_isSo 802 = .ok (.iload 11, 2) := by decide +kernel
theorem dL_isSo_804 : decode cL_isSo 804 = .ok (.iload 15, 2) := by decide +kernel
theorem dL_isSo_806 : decode cL_isSo 806 = .ok (.ishr, 1) := by decide +kernel
theorem dL_isSo_807 : decode cL_isSo 807 = .ok (.iconst 1, 1) := by decide +kernel
theorem dL_isSo_808 : decode cL_isSo 808 = .ok (.iand, 1) := by decide +kernel
theorem dL_isSo_809 : decode cL_isSo 809 = .ok (.ifCond .eq 35, 3) := by decide +kernel
theorem dL_isSo_812 : decode cL_isSo 812 = .ok (.iload_n 3, 1) := by decide +kernel
theorem dL_isSo_813 : decode cL_isSo 813 = .ok (.iconst 3, 1) := by decide +kernel
theorem dL_isSo_814 : decode cL_isSo 814 = .ok (.if_icmp .ge 15, 3) := by decide +kernel
theorem dL_isSo_817 : decode cL_isSo 817 = .ok (.iload 14, 2) := by decide +kernel
theorem dL_isSo_819 : decode cL_isSo 819 = .ok (.iconst (-1), 1) := by decide +kernel
theorem dL_isSo_820 : decode cL_isSo 820 = .ok (.if_icmp .ne 24, 3) := by decide +kernel
theorem dL_isSo_823 : decode cL_isSo 823 = .ok (.iload 15, 2) := by decide +kernel
theorem dL_isSo_825 : decode cL_isSo 825 = .ok (.iconst (-1), 1) := by decide +kernel
theorem dL_isSo_826 : decode cL_isSo 826 = .ok (.if_icmp .ne 18, 3) := by decide +kernel
theorem dL_isSo_829 : decode cL_isSo 829 = .ok (.iload_n 3, 1) := by decide +kernel
theorem dL_isSo_830 : decode cL_isSo 830 = .ok (.iconst 3, 1) := by decide +kernel
theorem dL_isSo_831 : decode cL_isSo 831 = .ok (.if_icmp .ne 15, 3) := by decide +kernel
theorem dL_isSo_834 : decode cL_isSo 834 = .ok (.iload 11, 2) := by decide +kernel
theorem dL_isSo_836 : decode cL_isSo 836 = .ok (.ifCond .eq 10, 3) := by decide +kernel
theorem dL_isSo_839 : decode cL_isSo 839 = .ok (.iload 14, 2) := by decide +kernel
theorem dL_isSo_841 : decode cL_isSo 841 = .ok (.ifCond .ge 5, 3) := by decide +kernel
theorem dL_isSo_844 : decode cL_isSo 844 = .ok (.iconst 0, 1) := by decide +kernel
theorem dL_isSo_845 : decode cL_isSo 845 = .ok (.ireturn, 1) := by decide +kernel
theorem dL_isSo_846 : decode cL_isSo 846 = .ok (.aload_n 0, 1) := by decide +kernel
theorem dL_isSo_847 : decode cL_isSo 847 = .ok (.invokevirtual 71, 3) := by decide +kernel
theorem dL_isSo_850 : decode cL_isSo 850 = .ok (.ifCond .ge 7, 3) := by decide +kernel
theorem dL_isSo_853 : decode cL_isSo 853 = .ok (.iconst 1, 1) := by decide +kernel
theorem dL_isSo_854 : decode cL_isSo 854 = .ok (.goto 4, 3) := by decide +kernel
theorem dL_isSo_857 : decode cL_isSo 857 = .ok (.iconst 0, 1) := by decide +kernel
theorem dL_isSo_858 : decode cL_isSo 858 = .ok (.iload_n 3, 1) := by decide +kernel
theorem dL_isSo_859 : decode cL_isSo 859 = .ok (.iconst 1, 1) := by decide +kernel
theorem dL_isSo_860 : decode cL_isSo 860 = .ok (.if_icmp .eq 7, 3) := by decide +kernel
theorem dL_isSo_863 : decode cL_isSo 863 = .ok (.iconst 1, 1) := by decide +kernel
theorem dL_isSo_864 : decode cL_isSo 864 = .ok (.goto 4, 3) := by decide +kernel
theorem dL_isSo_867 : decode cL_isSo 867 = .ok (.iconst 0, 1) := by decide +kernel
theorem dL_isSo_868 : decode cL_isSo 868 = .ok (.if_icmp .ne 20, 3) := by decide +kernel
theorem dL_isSo_871 : decode cL_isSo 871 = .ok (.aload_n 0, 1) := by decide +kernel
theorem dL_isSo_872 : decode cL_isSo 872 = .ok (.iconst 2, 1) := by decide +kernel
theorem dL_isSo_873 : decode cL_isSo 873 = .ok (.invokevirtual 104, 3) := by decide +kernel
theorem dL_isSo_876 : decode cL_isSo 876 = .ok (.aload_n 0, 1) := by decide +kernel
theorem dL_isSo_877 : decode cL_isSo 877 = .ok (.iconst 1, 1) := by decide +kernel
theorem dL_isSo_878 : decode cL_isSo 878 = .ok (.invokevirtual 104, 3) := by decide +kernel
theorem dL_isSo_881 : decode cL_isSo 881 = .ok (.if_icmp .lt 7, 3) := by decide +kernel
theorem dL_isSo_884 : decode cL_isSo 884 = .ok (.iconst 1, 1) := by decide +kernel
theorem dL_isSo_885 : decode cL_isSo 885 = .ok (.goto 4, 3) := by decide +kernel
theorem dL_isSo_888 : decode cL_isSo 888 = .ok (.iconst 0, 1) := by decide +kernel
theorem dL_isSo_889 : decode cL_isSo 889 = .ok (.ireturn, 1) := by decide +kernel
