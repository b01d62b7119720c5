theorem dX4_digest_35 : decode cX4_digest 35 = .ok (.getfield 54, 3) := by decide +kernel
theorem dX4_digest_38 : decode cX4_digest 38 = .ok (.if_icmp .ge 39, 3) := by decide +kernel
theorem dX4_digest_41 : decode cX4_digest 41 = .ok (.iconst 0, 1) := by decide +kernel
theorem dX4_digest_42 : decode cX4_digest 42 = .ok (.istore 4, 2) := by decide +kernel
theorem dX4_digest_44 : decode cX4_digest 44 = .ok (.iload 4, 2) := by decide +kernel
theorem dX4_digest_46 : decode cX4_digest 46 = .ok (.iconst 4, 1) := by decide +kernel
theorem dX4_digest_47 : decode cX4_digest 47 = .ok (.if_icmp .gt 24, 3) := by decide +kernel
theorem dX4_digest_50 : decode cX4_digest 50 = .ok (.lload_n 1, 1) := by decide +kernel
theorem dX4_digest_51 : decode cX4_digest 51 = .ok (.ldc2_w 377, 3) := by decide +kernel
theorem dX4_digest_54 : decode cX4_digest 54 = .ok (.lmul, 1) := by decide +kernel
theorem dX4_digest_55 : decode cX4_digest 55 = .ok (.aload_n 0, 1) := by decide +kernel
theorem dX4_digest_56 : decode cX4_digest 56 = .ok (.iload_n 3, 1) := by decide +kernel
theorem dX4_digest_57 : decode cX4_digest 57 = .ok (.iload 4, 2) := by decide +kernel
theorem dX4_digest_59 : decode cX4_digest 59 = .ok (.invokevirtual 382, 3) := by decide +kernel
theorem dX4_digest_62 : decode cX4_digest 62 = .ok (.i2l, 1) := by decide +kernel
theorem dX4_digest_63 : decode cX4_digest 63 = .ok (.ladd, 1) := by decide +kernel
theorem dX4_digest_64 : decode cX4_digest 64 = .ok (.lstore_n 1, 1) := by decide +kernel
theorem dX4_digest_65 : decode cX4_digest 65 = .ok (.iinc 4 1, 3) := by decide +kernel
theorem dX4_digest_68 : decode cX4_digest 68 = .ok (.goto (-24), 3) := by decide +kernel
theorem dX4_digest_71 : decode cX4_digest 71 = .ok (.iinc 3 1, 3) := by decide +kernel
theorem dX4_digest_74 : decode cX4_digest 74 = .ok (.goto (-41), 3) := by decide +kernel
theorem dX4_digest_77 : decode cX4_digest 77 = .ok (.iconst 0, 1) := by decide +kernel
theorem dX4_digest_78 : decode cX4_digest 78 = .ok (.istore_n 3, 1) := by decide +kernel
theorem dX4_digest_79 : decode cX4_digest 79 = .ok (.iload_n 3, 1) := by decide +kernel
theorem dX4_digest_80 : decode cX4_digest 80 = .ok (.aload_n 0, 1) := by decide +kernel
theorem dX4_digest_81 : decode cX4_digest 81 = .ok (.getfield 85, 3) := by decide +kernel
theorem dX4_digest_84 : decode cX4_digest 84 = .ok (.if_icmp .ge 53, 3) := by decide +kernel
theorem dX4_digest_87 : decode cX4_digest 87 = .ok (.iconst 0, 1) := by decide +kernel
theorem dX4_digest_88 : decode cX4_digest 88 = .ok (.istore 4, 2) := by decide +kernel
theorem dX4_digest_90 : decode cX4_digest 90 = .ok (.iload 4, 2) := by decide +kernel
theorem dX4_digest_92 : decode cX4_digest 92 = .ok (.bipush 10, 2) := by decide +kernel
theorem dX4_digest_94 : decode cX4_digest 94 = .ok (.if_icmp .gt 24, 3) := by decide +kernel
theorem dX4_digest_97 : decode cX4_digest 97 = .ok (.lload_n 1, 1) := by decide +kernel
theorem dX4_digest_98 : decode cX4_digest 98 = .ok (.ldc2_w 377, 3) := by decide +kernel
theorem dX4_digest_101 : decode cX4_digest 101 = .ok (.lmul, 1) := by decide +kernel
theorem dX4_digest_102 : decode cX4_digest 102 = .ok (.aload_n 0, 1) := by decide +kernel
theorem dX4_digest_103 : decode cX4_digest 103 = .ok (.iload_n 3, 1) := by decide +kernel
theorem dX4_digest_104 : decode cX4_digest 104 = .ok (.iload 4, 2) := by decide +kernel
theorem dX4_digest_106 : decode cX4_digest 106 = .ok (.invokevirtual 385, 3) := by decide +kernel
theorem dX4_digest_109 : decode cX4_digest 109 = .ok (.i2l, 1) := by decide +kernel
theorem dX4_digest_110 : decode cX4_digest 110 = .ok (.ladd, 1) := by decide +kernel
theorem dX4_digest_111 : decode cX4_digest 111 = .ok (.lstore_n 1, 1) := by decide +kernel
theorem dX4_digest_112 : decode cX4_digest 112 = .ok (.iinc 4 1, 3) := by decide +kernel
theorem dX4_digest_115 : decode cX4_digest 115 = .ok (.goto (-25), 3) := by decide +kernel
theorem dX4_digest_118 : decode cX4_digest 118 = .ok (.lload_n 1, 1) := by decide +kernel
theorem dX4_digest_119 : decode cX4_digest 119 = .ok (.ldc2_w 377, 3) := by decide +kernel
theorem dX4_digest_122 : decode cX4_digest 122 = .ok (.lmul, 1) := by decide +kernel
theorem dX4_digest_123 : decode cX4_digest 123 = .ok (.aload_n 0, 1) := by decide +kernel
theorem dX4_digest_124 : decode cX4_digest 124 = .ok (.iload_n 3, 1) := by decide +kernel
theorem dX4_digest_125 : decode cX4_digest 125 = .ok (.invokevirtual 388, 3) := by decide +kernel
theorem dX4_digest_128 : decode cX4_digest 128 = .ok (.i2l, 1) := by decide +kernel
theorem dX4_digest_129 : decode cX4_digest 129 = .ok (.ladd, 1) := by decide +kernel
theorem dX4_digest_130 : decode cX4_digest 130 = .ok (.lstore_n 1, 1) := by decide +kernel
theorem dX4_digest_131 : decode cX4_digest 131 = .ok (.iinc 3 1, 3) := by decide +kernel
theorem dX4_digest_134 : decode cX4_digest 134 = .ok (.goto (-55), 3) := by decide +kernel
theorem dX4_digest_137 : decode cX4_digest 137 = .ok (.iconst 0, 1) := by decide +kernel
theorem dX4_digest_138 : decode cX4_digest 138 = .ok (.istore_n 3, 1) := by decide +kernel
theorem dX4_digest_139 : decode cX4_digest 139 = .ok (.iload_n 3, 1) := by decide +kernel
theorem dX4_digest_140 : decode cX4_digest 140 = .ok (.aload_n 0, 1) := by decide +kernel
theorem dX4_digest_141 : decode cX4_digest 141 = .ok (.getfield 102, 3) := by decide +kernel
theorem dX4_digest_144 : decode cX4_digest 144 = .ok (.if_icmp .ge 73, 3) := by decide +kernel
theorem dX4_digest_147 : decode cX4_digest 147 = .ok (.iconst 0, 1) := by decide +kernel
theorem dX4_digest_148 : decode cX4_digest 148 = .ok (.istore 4, 2) := by decide +kernel
theorem dX4_digest_150 : decode cX4_digest 150 = .ok (.iload 4, 2) := by decide +kernel
theorem dX4_digest_152 : decode cX4_digest 152 = .ok (.bipush 7, 2) := by decide +kernel
theorem dX4_digest_154 : decode cX4_digest 154 = .ok (.if_icmp .gt 24, 3) := by decide +kernel
theorem dX4_digest_157 : decode cX4_digest 157 = .ok (.lload_n 1, 1) := by decide +kernel
theorem dX4_digest_158 : decode cX4_digest 158 = .ok (.ldc2_w 377, 3) := by decide +kernel
theorem dX4_digest_161 : decode cX4_digest 161 = .ok (.lmul, 1) := by decide +kernel
theorem dX4_digest_162 : decode cX4_digest 162 = .ok (.aload_n 0, 1) := by decide +kernel
theorem dX4_digest_163 : decode cX4_digest 163 = .ok (.iload_n 3, 1) := by decide +kernel
theorem dX4_digest_164 : decode cX4_digest 164 = .ok (.iload 4, 2) := by decide +kernel
theorem dX4_digest_166 : decode cX4_digest 166 = .ok (.invokevirtual 391, 3) := by decide +kernel
theorem dX4_digest_169 : decode cX4_digest 169 = .ok (.i2l, 1) := by decide +kernel
theorem dX4_digest_170 : decode cX4_digest 170 = .ok (.ladd, 1) := by decide +kernel
theorem dX4_digest_171 : decode cX4_digest 171 = .ok (.lstore_n 1, 1) := by decide +kernel
theorem dX4_digest_172 : decode cX4_digest 172 = .ok (.iinc 4 1, 3) := by decide +kernel
theorem dX4_digest_175 : decode cX4_digest 175 = .ok (.goto (-25), 3) := by decide +kernel
theorem dX4_digest_178 : decode cX4_digest 178 = .ok (.iconst 0, 1) := by decide +kernel
theorem dX4_digest_179 : decode cX4_digest 179 = .ok (.istore 4, 2) := by decide +kernel
theorem dX4_digest_181 : decode cX4_digest 181 = .ok (.iload 4, 2) := by decide +kernel
theorem dX4_digest_183 : decode cX4_digest 183 = .ok (.aload_n 0, 1) := by decide +kernel
theorem dX4_digest_184 : decode cX4_digest 184 = .ok (.getfield 85, 3) := by decide +kernel
theorem dX4_digest_187 : decode cX4_digest 187 = .ok (.if_icmp .ge 24, 3) := by decide +kernel
theorem dX4_digest_190 : decode cX4_digest 190 = .ok (.lload_n 1, 1) := by decide +kernel
theorem dX4_digest_191 : decode cX4_digest 191 = .ok (.ldc2_w 377, 3) := by decide +kernel
theorem dX4_digest_194 : decode cX4_digest 194 = .ok (.lmul, 1) := by decide +kernel
theorem dX4_digest_195 : decode cX4_digest 195 = .ok (.aload_n 0, 1) := by decide +kernel
theorem dX4_digest_196 : decode cX4_digest 196 = .ok (.iload_n 3, 1) := by decide +kernel
theorem dX4_digest_197 : decode cX4_digest 197 = .ok (.iload 4, 2) := by decide +kernel
theorem dX4_digest_199 : decode cX4_digest 199 = .ok (.invokevirtual 394, 3) := by decide +kernel
theorem dX4_digest_202 : decode cX4_digest 202 = .ok (.i2l, 1) := by decide +kernel
theorem dX4_digest_203 : decode cX4_digest 203 = .ok (.ladd, 1) := by decide +kernel
theorem dX4_digest_204 : decode cX4_digest 204 = .ok (.lstore_n 1, 1) := by decide +kernel
theorem dX4_digest_205 : decode cX4_digest 205 = .ok (.iinc 4 1, 3) := by decide +kernel
theorem dX4_digest_208 : decode cX4_digest 208 = .ok (.goto (-27), 3) := by decide +kernel
theorem dX4_digest_211 : decode cX4_digest 211 = .ok (.iinc 3 1, 3) := by decide +kernel
theorem dX4_digest_214 : decode cX4_digest 214 = .ok (.goto (-75), 3) := by decide +kernel
theorem dX4_digest_217 : decode cX4_digest 217 = .ok (.lload_n 1, 1) := by decide +kernel
theorem dX4_digest_218 : decode cX4_digest 218 = .ok (.ldc2_w 377, 3) := by decide +kernel
theorem dX4_digest_221 : decode cX4_digest 221 = .ok (.lmul, 1) := by decide +kernel
theorem dX4_digest_222 : decode cX4_digest 222 = .ok (.aload_n 0, 1) := by decide +kernel
theorem dX4_digest_223 : decode cX4_digest 223 = .ok (.iconst 0, 1) := by decide +kernel
theorem dX4_digest_224 : decode cX4_digest 224 = .ok (.invokevirtual 397, 3) := by decide +kernel
theorem dX4_digest_227 : decode cX4_digest 227 = .ok (.i2l, 1) := by decide +kernel
theorem dX4_digest_228 : decode cX4_digest 228 = .ok (.ladd, 1) := by decide +kernel
theorem dX4_digest_229 : decode cX4_digest 229 = .ok (.lstore_n 1, 1) := by decide +kernel
theorem dX4_digest_230 : decode cX4_digest 230 = .ok (.lload_n 1, 1) := by decide +kernel
theorem dX4_digest_231 : decode cX4_digest 231 = .ok (.ldc2_w 377, 3) := by decide +kernel
theorem dX4_digest_234 : decode cX4_digest 234 = .ok (.lmul, 1) := by decide +kernel
theorem dX4_digest_235 : decode cX4_digest 235 = .ok (.aload_n 0, 1) := by decide +kernel
theorem dX4_digest_236 : decode cX4_digest 236 = .ok (.iconst 1, 1) := by decide +kernel
theorem dX4_digest_237 : decode cX4_digest 237 = .ok (.invokevirtual 397, 3) := by decide +kernel
theorem dX4_digest_240 : decode cX4_digest 240 = .ok (.i2l, 1) := by decide +kernel
theorem dX4_digest_241 : decode cX4_digest 241 = .ok (.ladd, 1) := by decide +kernel
theorem dX4_digest_242 : decode cX4_digest 242 = .ok (.lstore_n 1, 1) := by decide +kernel
theorem dX4_digest_243 : decode cX4_digest 243 = .ok (.lload_n 1, 1) := by decide +kernel
theorem dX4_digest_244 : decode cX4_digest 244 = .ok (.ldc2_w 377, 3) := by decide +kernel
theorem dX4_digest_247 : decode cX4_digest 247 = .ok (.lmul, 1) := by decide +kernel
theorem dX4_digest_248 : decode cX4_digest 248 = .ok (.aload_n 0, 1) := by decide +kernel
theorem dX4_digest_249 : decode cX4_digest 249 = .ok (.invokevirtual 400, 3) := by decide +kernel
theorem dX4_digest_252 : decode cX4_digest 252 = .ok (.i2l, 1) := by decide +kernel
theorem dX4_digest_253 : decode cX4_digest 253 = .ok (.ladd, 1) := by decide +kernel
theorem dX4_digest_254 : decode cX4_digest 254 = .ok (.lstore_n 1, 1) := by decide +kernel
theorem dX4_digest_255 : decode cX4_digest 255 = .ok (.lload_n 1, 1) := by decide +kernel
theorem dX4_digest_256 : decode cX4_digest 256 = .ok (.ldc2_w 377, 3) := by decide +kernel
theorem dX4_digest_259 : decode cX4_digest 259 = .ok (.lmul, 1) := by decide +kernel
theorem dX4_digest_260 : decode cX4_digest 260 = .ok (.aload_n 0, 1) := by decide +kernel
theorem dX4_digest_261 : decode cX4_digest 261 = .ok (.invokevirtual 403, 3) := by decide +kernel
theorem dX4_digest_264 : decode cX4_digest 264 = .ok (.i2l, 1) := by decide +kernel
theorem dX4_digest_265 : decode cX4_digest 265 = .ok (.ladd, 1) := by decide +kernel
theorem dX4_digest_266 : decode cX4_digest 266 = .ok (.lstore_n 1, 1) := by decide +kernel
theorem dX4_digest_267 : decode cX4_digest 267 = .ok (.lload_n 1, 1) := by decide +kernel
theorem dX4_digest_268 : decode cX4_digest 268 = .ok (.ldc2_w 377, 3) := by decide +kernel
theorem dX4_digest_271 : decode cX4_digest 271 = .ok (.lmul, 1) := by decide +kernel
theorem dX4_digest_272 : decode cX4_digest 272 = .ok (.aload_n 0, 1) := by decide +kernel
theorem dX4_digest_273 : decode cX4_digest 273 = .ok (.bipush 7, 2) := by decide +kernel
theorem dX4_digest_275 : decode cX4_digest 275 = .ok (.invokevirtual 406, 3) := by decide +kernel
theorem dX4_digest_278 : decode cX4_digest 278 = .ok (.i2l, 1) := by decide +kernel
theorem dX4_digest_279 : decode cX4_digest 279 = .ok (.ladd, 1) := by decide +kernel
theorem dX4_digest_280 : decode cX4_digest 280 = .ok (.lreturn, 1) := by decide +kernel
theorem dX4_isWithin_0 : decode cX4_isWithin 0 = .ok (.iload_n 0, 1) := by decide +kernel
theorem dX4_isWithin_1 : decode cX4_isWithin 1 = .ok (.iload_n 1, 1) := by decide +kernel
theorem dX4_isWithin_2 : decode cX4_isWithin 2 = .ok (.if_icmp .lt 12, 3) := by decide +kernel
theorem dX4_isWithin_5 : decode cX4_isWithin 5 = .ok (.iload_n 0, 1) := by decide +kernel
theorem dX4_isWithin_6 : decode cX4_isWithin 6 = .ok (.iload_n 2, 1) := by decide +kernel
theorem dX4_isWithin_7 : decode cX4_isWithin 7 = .ok (.if_icmp .gt 7, 3) := by decide +kernel
theorem dX4_isWithin_10 : decode cX4_isWithin 10 = .ok (.iconst 1, 1) := by decide +kernel
theorem dX4_isWithin_11 : decode cX4_isWithin 11 = .ok (.goto 4, 3) := by decide +kernel
theorem dX4_isWithin_14 : decode cX4_isWithin 14 = .ok (.iconst 0, 1) := by decide +kernel
theorem dX4_isWithin_15 : decode cX4_isWithin 15 = .ok (.ireturn, 1) := by decide +kernel
theorem dX4_isAuthor_0 : decode cX4_isAuthor 0 = .ok (.iload_n 0, 1) := by decide +kernel
theorem dX4_isAuthor_1 : decode cX4_isAuthor 1 = .ok (.iconst 0, 1) := by decide +kernel
theorem dX4_isAuthor_2 : decode cX4_isAuthor 2 = .ok (.bipush 9, 2) := by decide +kernel
theorem dX4_isAuthor_4 : decode cX4_isAuthor 4 = .ok (.invokestatic 76, 3) := by decide +kernel
theorem dX4_isAuthor_7 : decode cX4_isAuthor 7 = .ok (.ireturn, 1) := by decide +kernel
theorem dX4_isHouse_0 : decode cX4_isHouse 0 = .ok (.iload_n 1, 1) := by decide +kernel
theorem dX4_isHouse_1 : decode cX4_isHouse 1 = .ok (.ifCond .lt 15, 3) := by decide +kernel
theorem dX4_isHouse_4 : decode cX4_isHouse 4 = .ok (.iload_n 1, 1) := by decide +kernel
theorem dX4_isHouse_5 : decode cX4_isHouse 5 = .ok (.aload_n 0, 1) := by decide +kernel
theorem dX4_isHouse_6 : decode cX4_isHouse 6 = .ok (.getfield 54, 3) := by decide +kernel
theorem dX4_isHouse_9 : decode cX4_isHouse 9 = .ok (.if_icmp .ge 7, 3) := by decide +kernel
theorem dX4_isHouse_12 : decode cX4_isHouse 12 = .ok (.iconst 1, 1) := by decide +kernel
theorem dX4_isHouse_13 : decode cX4_isHouse 13 = .ok (.goto 4, 3) := by decide +kernel
theorem dX4_isHouse_16 : decode cX4_isHouse 16 = .ok (.iconst 0, 1) := by decide +kernel
theorem dX4_isHouse_17 : decode cX4_isHouse 17 = .ok (.ireturn, 1) := by decide +kernel
theorem dX4_isBook_0 : decode cX4_isBook 0 = .ok (.iload_n 1, 1) := by decide +kernel
theorem dX4_isBook_1 : decode cX4_isBook 1 = .ok (.ifCond .lt 15, 3) := by decide +kernel
theorem dX4_isBook_4 : decode cX4_isBook 4 = .ok (.iload_n 1, 1) := by decide +kernel
theorem dX4_isBook_5 : decode cX4_isBook 5 = .ok (.aload_n 0, 1) := by decide +kernel
theorem dX4_isBook_6 : decode cX4_isBook 6 = .ok (.getfield 85, 3) := by decide +kernel
theorem dX4_isBook_9 : decode cX4_isBook 9 = .ok (.if_icmp .ge 7, 3) := by decide +kernel
theorem dX4_isBook_12 : decode cX4_isBook 12 = .ok (.iconst 1, 1) := by decide +kernel
theorem dX4_isBook_13 : decode cX4_isBook 13 = .ok (.goto 4, 3) := by decide +kernel
theorem dX4_isBook_16 : decode cX4_isBook 16 = .ok (.iconst 0, 1) := by decide +kernel
theorem dX4_isBook_17 : decode cX4_isBook 17 = .ok (.ireturn, 1) := by decide +kernel
theorem dX4_isJudge_0 : decode cX4_isJudge 0 = .ok (.iload_n 1, 1) := by decide +kernel
theorem dX4_isJudge_1 : decode cX4_isJudge 1 = .ok (.ifCond .lt 15, 3) := by decide +kernel
theorem dX4_isJudge_4 : decode cX4_isJudge 4 = .ok (.iload_n 1, 1) := by decide +kernel
theorem dX4_isJudge_5 : decode cX4_isJudge 5 = .ok (.aload_n 0, 1) := by decide +kernel
theorem dX4_isJudge_6 : decode cX4_isJudge 6 = .ok (.getfield 102, 3) := by decide +kernel
theorem dX4_isJudge_9 : decode cX4_isJudge 9 = .ok (.if_icmp .ge 7, 3) := by decide +kernel
theorem dX4_isJudge_12 : decode cX4_isJudge 12 = .ok (.iconst 1, 1) := by decide +kernel
theorem dX4_isJudge_13 : decode cX4_isJudge 13 = .ok (.goto 4, 3) := by decide +kernel
theorem dX4_isJudge_16 : decode cX4_isJudge 16 = .ok (.iconst 0, 1) := by decide +kernel
theorem dX4_isJudge_17 : decode cX4_isJudge 17 = .ok (.ireturn, 1) := by decide +kernel
theorem dX4_bit_0 : decode cX4_bit 0 = .ok (.iconst 1, 1) := by decide +kernel
theorem dX4_bit_1 : decode cX4_bit 1 = .ok (.iload_n 0, 1) := by decide +kernel
theorem dX4_bit_2 : decode cX4_bit 2 = .ok (.ishl, 1) := by decide +kernel
theorem dX4_bit_3 : decode cX4_bit 3 = .ok (.ireturn, 1) := by decide +kernel
theorem dX4_has_0 : decode cX4_has 0 = .ok (.iload_n 0, 1) := by decide +kernel
theorem dX4_has_1 : decode cX4_has 1 = .ok (.iconst 1, 1) := by decide +kernel
theorem dX4_has_2 : decode cX4_has 2 = .ok (.iload_n 1, 1) := by decide +kernel
theorem dX4_has_3 : decode cX4_has 3 = .ok (.ishl, 1) := by decide +kernel
theorem dX4_has_4 : decode cX4_has 4 = .ok (.iand, 1) := by decide +kernel
theorem dX4_has_5 : decode cX4_has 5 = .ok (.ifCond .eq 7, 3) := by decide +kernel
theorem dX4_has_8 : decode cX4_has 8 = .ok (.iconst 1, 1) := by decide +kernel
theorem dX4_has_9 : decode cX4_has 9 = .ok (.goto 4, 3) := by decide +kernel
theorem dX4_has_12 : decode cX4_has 12 = .ok (.iconst 0, 1) := by decide +kernel
theorem dX4_has_13 : decode cX4_has 13 = .ok (.ireturn, 1) := by decide +kernel
theorem dX4_allBooks_0 : decode cX4_allBooks 0 = .ok (.aload_n 0, 1) := by decide +kernel
theorem dX4_allBooks_1 : decode cX4_allBooks 1 = .ok (.getfield 85, 3) := by decide +kernel
theorem dX4_allBooks_4 : decode cX4_allBooks 4 = .ok (.invokestatic 120, 3) := by decide +kernel
theorem dX4_allBooks_7 : decode cX4_allBooks 7 = .ok (.iconst 1, 1) := by decide +kernel
theorem dX4_allBooks_8 : decode cX4_allBooks 8 = .ok (.isub, 1) := by decide +kernel
theorem dX4_allBooks_9 : decode cX4_allBooks 9 = .ok (.ireturn, 1) := by decide +kernel
theorem dX4_countOfHouse_0 : decode cX4_countOfHouse 0 = .ok (.iconst 0, 1) := by decide +kernel
theorem dX4_countOfHouse_1 : decode cX4_countOfHouse 1 = .ok (.istore_n 3, 1) := by decide +kernel
theorem dX4_countOfHouse_2 : decode cX4_countOfHouse 2 = .ok (.iconst 0, 1) := by decide +kernel
theorem dX4_countOfHouse_3 : decode cX4_countOfHouse 3 = .ok (.istore 4, 2) := by decide +kernel
theorem dX4_countOfHouse_5 : decode cX4_countOfHouse 5 = .ok (.iload 4, 2) := by decide +kernel
theorem dX4_countOfHouse_7 : decode cX4_countOfHouse 7 = .ok (.aload_n 0, 1) := by decide +kernel
theorem dX4_countOfHouse_8 : decode cX4_countOfHouse 8 = .ok (.getfield 85, 3) := by decide +kernel
theorem dX4_countOfHouse_11 : decode cX4_countOfHouse 11 = .ok (.if_icmp .ge 35, 3) := by decide +kernel
theorem dX4_countOfHouse_14 : decode cX4_countOfHouse 14 = .ok (.iload_n 2, 1) := by decide +kernel
theorem dX4_countOfHouse_15 : decode cX4_countOfHouse 15 = .ok (.iload 4, 2) := by decide +kernel
theorem dX4_countOfHouse_17 : decode cX4_countOfHouse 17 = .ok (.invokestatic 223, 3) := by decide +kernel
theorem dX4_countOfHouse_20 : decode cX4_countOfHouse 20 = .ok (.ifCond .eq 20, 3) := by decide +kernel
theorem dX4_countOfHouse_23 : decode cX4_countOfHouse 23 = .ok (.aload_n 0, 1) := by decide +kernel
theorem dX4_countOfHouse_24 : decode cX4_countOfHouse 24 = .ok (.getfield 17, 3) := by decide +kernel
theorem dX4_countOfHouse_27 : decode cX4_countOfHouse 27 = .ok (.iload 4, 2) := by decide +kernel
theorem dX4_countOfHouse_29 : decode cX4_countOfHouse 29 = .ok (.aaload, 1) := by decide +kernel
theorem dX4_countOfHouse_30 : decode cX4_countOfHouse 30 = .ok (.getfield 151, 3) := by decide +kernel
theorem dX4_countOfHouse_33 : decode cX4_countOfHouse 33 = .ok (.iload_n 1, 1) := by decide +kernel
theorem dX4_countOfHouse_34 : decode cX4_countOfHouse 34 = .ok (.if_icmp .ne 6, 3) := by decide +kernel
theorem dX4_countOfHouse_37 : decode cX4_countOfHouse 37 = .ok (.iinc 3 1, 3) := by decide +kernel
theorem dX4_countOfHouse_40 : decode cX4_countOfHouse 40 = .ok (.iinc 4 1, 3) := by decide +kernel
theorem dX4_countOfHouse_43 : decode cX4_countOfHouse 43 = .ok (.goto (-38), 3) := by decide +kernel
theorem dX4_countOfHouse_46 : decode cX4_countOfHouse 46 = .ok (.iload_n 3, 1) := by decide +kernel
theorem dX4_countOfHouse_47 : decode cX4_countOfHouse 47 = .ok (.ireturn, 1) := by decide +kernel
theorem dX4_quotaOf_0 : decode cX4_quotaOf 0 = .ok (.iconst 4, 1) := by decide +kernel
theorem dX4_quotaOf_1 : decode cX4_quotaOf 1 = .ok (.iconst 2, 1) := by decide +kernel
theorem dX4_quotaOf_2 : decode cX4_quotaOf 2 = .ok (.aload_n 0, 1) := by decide +kernel
theorem dX4_quotaOf_3 : decode cX4_quotaOf 3 = .ok (.iload_n 1, 1) := by decide +kernel
theorem dX4_quotaOf_4 : decode cX4_quotaOf 4 = .ok (.aload_n 0, 1) := by decide +kernel
theorem dX4_quotaOf_5 : decode cX4_quotaOf 5 = .ok (.getfield 287, 3) := by decide +kernel
theorem dX4_quotaOf_8 : decode cX4_quotaOf 8 = .ok (.invokevirtual 299, 3) := by decide +kernel
theorem dX4_quotaOf_11 : decode cX4_quotaOf 11 = .ok (.iadd, 1) := by decide +kernel
theorem dX4_quotaOf_12 : decode cX4_quotaOf 12 = .ok (.invokestatic 190, 3) := by decide +kernel
theorem dX4_quotaOf_15 : decode cX4_quotaOf 15 = .ok (.ireturn, 1) := by decide +kernel
theorem dX4_isEntered_0 : decode cX4_isEntered 0 = .ok (.aload_n 0, 1) := by decide +kernel
theorem dX4_isEntered_1 : decode cX4_isEntered 1 = .ok (.getfield 17, 3) := by decide +kernel
theorem dX4_isEntered_4 : decode cX4_isEntered 4 = .ok (.iload_n 1, 1) := by decide +kernel
theorem dX4_isEntered_5 : decode cX4_isEntered 5 = .ok (.aaload, 1) := by decide +kernel
theorem dX4_isEntered_6 : decode cX4_isEntered 6 = .ok (.getfield 409, 3) := by decide +kernel
theorem dX4_isEntered_9 : decode cX4_isEntered 9 = .ok (.aload_n 0, 1) := by decide +kernel
theorem dX4_isEntered_10 : decode cX4_isEntered 10 = .ok (.getfield 94, 3) := by decide +kernel
theorem dX4_isEntered_13 : decode cX4_isEntered 13 = .ok (.if_icmp .ne 7, 3) := by decide +kernel
theorem dX4_isEntered_16 : decode cX4_isEntered 16 = .ok (.iconst 1, 1) := by decide +kernel
theorem dX4_isEntered_17 : decode cX4_isEntered 17 = .ok (.goto 4, 3) := by decide +kernel
theorem dX4_isEntered_20 : decode cX4_isEntered 20 = .ok (.iconst 0, 1) := by decide +kernel
theorem dX4_isEntered_21 : decode cX4_isEntered 21 = .ok (.ireturn, 1) := by decide +kernel
theorem dX4_isEligible_0 : decode cX4_isEligible 0 = .ok (.aload_n 0, 1) := by decide +kernel
theorem dX4_isEligible_1 : decode cX4_isEligible 1 = .ok (.getfield 17, 3) := by decide +kernel
theorem dX4_isEligible_4 : decode cX4_isEligible 4 = .ok (.iload_n 1, 1) := by decide +kernel
theorem dX4_isEligible_5 : decode cX4_isEligible 5 = .ok (.aaload, 1) := by decide +kernel
theorem dX4_isEligible_6 : decode cX4_isEligible 6 = .ok (.astore_n 2, 1) := by decide +kernel
theorem dX4_isEligible_7 : decode cX4_isEligible 7 = .ok (.aload_n 2, 1) := by decide +kernel
theorem dX4_isEligible_8 : decode cX4_isEligible 8 = .ok (.getfield 409, 3) := by decide +kernel
theorem dX4_isEligible_11 : decode cX4_isEligible 11 = .ok (.iconst (-1), 1) := by decide +kernel
theorem dX4_isEligible_12 : decode cX4_isEligible 12 = .ok (.if_icmp .eq 14, 3) := by decide +kernel
theorem dX4_isEligible_15 : decode cX4_isEligible 15 = .ok (.aload_n 2, 1) := by decide +kernel
theorem dX4_isEligible_16 : decode cX4_isEligible 16 = .ok (.getfield 409, 3) := by decide +kernel
theorem dX4_isEligible_19 : decode cX4_isEligible 19 = .ok (.aload_n 0, 1) := by decide +kernel
theorem dX4_isEligible_20 : decode cX4_isEligible 20 = .ok (.getfield 94, 3) := by decide +kernel
theorem dX4_isEligible_23 : decode cX4_isEligible 23 = .ok (.if_icmp .ne 7, 3) := by decide +kernel
theorem dX4_isEligible_26 : decode cX4_isEligible 26 = .ok (.iconst 1, 1) := by decide +kernel
theorem dX4_isEligible_27 : decode cX4_isEligible 27 = .ok (.goto 4, 3) := by decide +kernel
theorem dX4_isEligible_30 : decode cX4_isEligible 30 = .ok (.iconst 0, 1) := by decide +kernel
theorem dX4_isEligible_31 : decode cX4_isEligible 31 = .ok (.istore_n 3, 1) := by decide +kernel
theorem dX4_isEligible_32 : decode cX4_isEligible 32 = .ok (.iload_n 3, 1) := by decide +kernel
theorem dX4_isEligible_33 : decode cX4_isEligible 33 = .ok (.ifCond .eq 38, 3) := by decide +kernel
theorem dX4_isEligible_36 : decode cX4_isEligible 36 = .ok (.aload_n 0, 1) := by decide +kernel
theorem dX4_isEligible_37 : decode cX4_isEligible 37 = .ok (.getfield 94, 3) := by decide +kernel
theorem dX4_isEligible_40 : decode cX4_isEligible 40 = .ok (.aload_n 2, 1) := by decide +kernel
theorem dX4_isEligible_41 : decode cX4_isEligible 41 = .ok (.getfield 97, 3) := by decide +kernel
theorem dX4_isEligible_44 : decode cX4_isEligible 44 = .ok (.isub, 1) := by decide +kernel
theorem dX4_isEligible_45 : decode cX4_isEligible 45 = .ok (.iconst 1, 1) := by decide +kernel
theorem dX4_isEligible_46 : decode cX4_isEligible 46 = .ok (.if_icmp .gt 25, 3) := by decide +kernel
theorem dX4_isEligible_49 : decode cX4_isEligible 49 = .ok (.aload_n 0, 1) := by decide +kernel
theorem dX4_isEligible_50 : decode cX4_isEligible 50 = .ok (.getfield 30, 3) := by decide +kernel
theorem dX4_isEligible_53 : decode cX4_isEligible 53 = .ok (.aload_n 2, 1) := by decide +kernel
theorem dX4_isEligible_54 : decode cX4_isEligible 54 = .ok (.getfield 412, 3) := by decide +kernel
theorem dX4_isEligible_57 : decode cX4_isEligible 57 = .ok (.aload_n 2, 1) := by decide +kernel
theorem dX4_isEligible_58 : decode cX4_isEligible 58 = .ok (.getfield 415, 3) := by decide +kernel
theorem dX4_isEligible_61 : decode cX4_isEligible 61 = .ok (.invokevirtual 418, 3) := by decide +kernel
theorem dX4_isEligible_64 : decode cX4_isEligible 64 = .ok (.ifCond .eq 7, 3) := by decide +kernel
theorem dX4_isEligible_67 : decode cX4_isEligible 67 = .ok (.iconst 1, 1) := by decide +kernel
theorem dX4_isEligible_68 : decode cX4_isEligible 68 = .ok (.goto 4, 3) := by decide +kernel
theorem dX4_isEligible_71 : decode cX4_isEligible 71 = .ok (.iconst 0, 1) := by decide +kernel
theorem dX4_isEligible_72 : decode cX4_isEligible 72 = .ok (.ireturn, 1) := by decide +kernel
theorem dX4_enteredCount_0 : decode cX4_enteredCount 0 = .ok (.iconst 0, 1) := by decide +kernel
theorem dX4_enteredCount_1 : decode cX4_enteredCount 1 = .ok (.istore_n 1, 1) := by decide +kernel
theorem dX4_enteredCount_2 : decode cX4_enteredCount 2 = .ok (.iconst 0, 1) := by decide +kernel
theorem dX4_enteredCount_3 : decode cX4_enteredCount 3 = .ok (.istore_n 2, 1) := by decide +kernel
theorem dX4_enteredCount_4 : decode cX4_enteredCount 4 = .ok (.iload_n 2, 1) := by decide +kernel
theorem dX4_enteredCount_5 : decode cX4_enteredCount 5 = .ok (.aload_n 0, 1) := by decide +kernel
theorem dX4_enteredCount_6 : decode cX4_enteredCount 6 = .ok (.getfield 85, 3) := by decide +kernel
theorem dX4_enteredCount_9 : decode cX4_enteredCount 9 = .ok (.if_icmp .ge 20, 3) := by decide +kernel
theorem dX4_enteredCount_12 : decode cX4_enteredCount 12 = .ok (.aload_n 0, 1) := by decide +kernel
theorem dX4_enteredCount_13 : decode cX4_enteredCount 13 = .ok (.iload_n 2, 1) := by decide +kernel
theorem dX4_enteredCount_14 : decode cX4_enteredCount 14 = .ok (.invokevirtual 143, 3) := by decide +kernel
theorem dX4_enteredCount_17 : decode cX4_enteredCount 17 = .ok (.ifCond .eq 6, 3) := by decide +kernel
theorem dX4_enteredCount_20 : decode cX4_enteredCount 20 = .ok (.iinc 1 1, 3) := by decide +kernel
theorem dX4_enteredCount_23 : decode cX4_enteredCount 23 = .ok (.iinc 2 1, 3) := by decide +kernel
theorem dX4_enteredCount_26 : decode cX4_enteredCount 26 = .ok (.goto (-22), 3) := by decide +kernel
theorem dX4_enteredCount_29 : decode cX4_enteredCount 29 = .ok (.iload_n 1, 1) := by decide +kernel
theorem dX4_enteredCount_30 : decode cX4_enteredCount 30 = .ok (.ireturn, 1) := by decide +kernel
theorem dX4_enterFor_0 : decode cX4_enterFor 0 = .ok (.aload_n 0, 1) := by decide +kernel
theorem dX4_enterFor_1 : decode cX4_enterFor 1 = .ok (.getfield 17, 3) := by decide +kernel
theorem dX4_enterFor_4 : decode cX4_enterFor 4 = .ok (.iload_n 1, 1) := by decide +kernel
theorem dX4_enterFor_5 : decode cX4_enterFor 5 = .ok (.aaload, 1) := by decide +kernel
theorem dX4_enterFor_6 : decode cX4_enterFor 6 = .ok (.aload_n 0, 1) := by decide +kernel
theorem dX4_enterFor_7 : decode cX4_enterFor 7 = .ok (.getfield 94, 3) := by decide +kernel
theorem dX4_enterFor_10 : decode cX4_enterFor 10 = .ok (.putfield 409, 3) := by decide +kernel
theorem dX4_enterFor_13 : decode cX4_enterFor 13 = .ok (.aload_n 0, 1) := by decide +kernel
theorem dX4_enterFor_14 : decode cX4_enterFor 14 = .ok (.getfield 11, 3) := by decide +kernel
theorem dX4_enterFor_17 : decode cX4_enterFor 17 = .ok (.aload_n 0, 1) := by decide +kernel
theorem dX4_enterFor_18 : decode cX4_enterFor 18 = .ok (.getfield 17, 3) := by decide +kernel
theorem dX4_enterFor_21 : decode cX4_enterFor 21 = .ok (.iload_n 1, 1) := by decide +kernel
theorem dX4_enterFor_22 : decode cX4_enterFor 22 = .ok (.aaload, 1) := by decide +kernel
theorem dX4_enterFor_23 : decode cX4_enterFor 23 = .ok (.getfield 151, 3) := by decide +kernel
theorem dX4_enterFor_26 : decode cX4_enterFor 26 = .ok (.aaload, 1) := by decide +kernel
theorem dX4_enterFor_27 : decode cX4_enterFor 27 = .ok (.dup, 1) := by decide +kernel
theorem dX4_enterFor_28 : decode cX4_enterFor 28 = .ok (.getfield 293, 3) := by decide +kernel
theorem dX4_enterFor_31 : decode cX4_enterFor 31 = .ok (.iload_n 2, 1) := by decide +kernel
theorem dX4_enterFor_32 : decode cX4_enterFor 32 = .ok (.isub, 1) := by decide +kernel
theorem dX4_enterFor_33 : decode cX4_enterFor 33 = .ok (.putfield 293, 3) := by decide +kernel
theorem dX4_enterFor_36 : decode cX4_enterFor 36 = .ok (.aload_n 0, 1) := by decide +kernel
theorem dX4_enterFor_37 : decode cX4_enterFor 37 = .ok (.invokevirtual 176, 3) := by decide +kernel
theorem dX4_enterFor_40 : decode cX4_enterFor 40 = .ok (.ireturn, 1) := by decide +kernel
theorem dX4_handOut_0 : decode cX4_handOut 0 = .ok (.iconst 0, 1) := by decide +kernel
theorem dX4_handOut_1 : decode cX4_handOut 1 = .ok (.istore_n 2, 1) := by decide +kernel
theorem dX4_handOut_2 : decode cX4_handOut 2 = .ok (.iconst 0, 1) := by decide +kernel
theorem dX4_handOut_3 : decode cX4_handOut 3 = .ok (.istore_n 3, 1) := by decide +kernel
theorem dX4_handOut_4 : decode cX4_handOut 4 = .ok (.iload_n 3, 1) := by decide +kernel
theorem dX4_handOut_5 : decode cX4_handOut 5 = .ok (.iconst 3, 1) := by decide +kernel
theorem dX4_handOut_6 : decode cX4_handOut 6 = .ok (.if_icmp .ge 59, 3) := by decide +kernel
theorem dX4_handOut_9 : decode cX4_handOut 9 = .ok (.aload_n 0, 1) := by decide +kernel
theorem dX4_handOut_10 : decode cX4_handOut 10 = .ok (.iload_n 2, 1) := by decide +kernel
theorem dX4_handOut_11 : decode cX4_handOut 11 = .ok (.aload_n 0, 1) := by decide +kernel
theorem dX4_handOut_12 : decode cX4_handOut 12 = .ok (.getfield 17, 3) := by decide +kernel
theorem dX4_handOut_15 : decode cX4_handOut 15 = .ok (.iload_n 1, 1) := by decide +kernel
theorem dX4_handOut_16 : decode cX4_handOut 16 = .ok (.aaload, 1) := by decide +kernel
theorem dX4_handOut_17 : decode cX4_handOut 17 = .ok (.getfield 170, 3) := by decide +kernel
theorem dX4_handOut_20 : decode cX4_handOut 20 = .ok (.invokevirtual 421, 3) := by decide +kernel
theorem dX4_handOut_23 : decode cX4_handOut 23 = .ok (.istore 4, 2) := by decide +kernel
theorem dX4_handOut_25 : decode cX4_handOut 25 = .ok (.iload 4, 2) := by decide +kernel
theorem dX4_handOut_27 : decode cX4_handOut 27 = .ok (.iconst (-1), 1) := by decide +kernel
theorem dX4_handOut_28 : decode cX4_handOut 28 = .ok (.if_icmp .eq 31, 3) := by decide +kernel
theorem dX4_handOut_31 : decode cX4_handOut 31 = .ok (.aload_n 0, 1) := by decide +kernel
theorem dX4_handOut_32 : decode cX4_handOut 32 = .ok (.getfield 23, 3) := by decide +kernel
theorem dX4_handOut_35 : decode cX4_handOut 35 = .ok (.iload 4, 2) := by decide +kernel
theorem dX4_handOut_37 : decode cX4_handOut 37 = .ok (.aaload, 1) := by decide +kernel
theorem dX4_handOut_38 : decode cX4_handOut 38 = .ok (.iload_n 1, 1) := by decide +kernel
theorem dX4_handOut_39 : decode cX4_handOut 39 = .ok (.aload_n 0, 1) := by decide +kernel
theorem dX4_handOut_40 : decode cX4_handOut 40 = .ok (.getfield 17, 3) := by decide +kernel
theorem dX4_handOut_43 : decode cX4_handOut 43 = .ok (.iload_n 1, 1) := by decide +kernel
theorem dX4_handOut_44 : decode cX4_handOut 44 = .ok (.aaload, 1) := by decide +kernel
theorem dX4_handOut_45 : decode cX4_handOut 45 = .ok (.getfield 415, 3) := by decide +kernel
theorem dX4_handOut_48 : decode cX4_handOut 48 = .ok (.invokevirtual 424, 3) := by decide +kernel
theorem dX4_handOut_51 : decode cX4_handOut 51 = .ok (.iload_n 2, 1) := by decide +kernel
theorem dX4_handOut_52 : decode cX4_handOut 52 = .ok (.iload 4, 2) := by decide +kernel
theorem dX4_handOut_54 : decode cX4_handOut 54 = .ok (.invokestatic 120, 3) := by decide +kernel
theorem dX4_handOut_57 : decode cX4_handOut 57 = .ok (.ior, 1) := by decide +kernel
theorem dX4_handOut_58 : decode cX4_handOut 58 = .ok (.istore_n 2, 1) := by decide +kernel
theorem dX4_handOut_59 : decode cX4_handOut 59 = .ok (.iinc 3 1, 3) := by decide +kernel
theorem dX4_handOut_62 : decode cX4_handOut 62 = .ok (.goto (-58), 3) := by decide +kernel
theorem dX4_handOut_65 : decode cX4_handOut 65 = .ok (.iload_n 2, 1) := by decide +kernel
theorem dX4_handOut_66 : decode cX4_handOut 66 = .ok (.invokestatic 124, 3) := by decide +kernel
theorem dX4_handOut_69 : decode cX4_handOut 69 = .ok (.ireturn, 1) := by decide +kernel
theorem dX4_lightestWithout_0 : decode cX4_lightestWithout 0 = .ok (.iconst (-1), 1) := by decide +kernel
theorem dX4_lightestWithout_1 : decode cX4_lightestWithout 1 = .ok (.istore_n 3, 1) := by decide +kernel
theorem dX4_lightestWithout_2 : decode cX4_lightestWithout 2 = .ok (.iconst 0, 1) := by decide +kernel
theorem dX4_lightestWithout_3 : decode cX4_lightestWithout 3 = .ok (.istore 4, 2) := by decide +kernel
theorem dX4_lightestWithout_5 : decode cX4_lightestWithout 5 = .ok (.iload 4, 2) := by decide +kernel
theorem dX4_lightestWithout_7 : decode cX4_lightestWithout 7 = .ok (.aload_n 0, 1) := by decide +kernel
theorem dX4_lightestWithout_8 : decode cX4_lightestWithout 8 = .ok (.getfield 102, 3) := by decide +kernel
theorem dX4_lightestWithout_11 : decode cX4_lightestWithout 11 = .ok (.if_icmp .ge 62, 3) := by decide +kernel
theorem dX4_lightestWithout_14 : decode cX4_lightestWithout 14 = .ok (.iload_n 1, 1) := by decide +kernel
theorem dX4_lightestWithout_15 : decode cX4_lightestWithout 15 = .ok (.iload 4, 2) := by decide +kernel
theorem dX4_lightestWithout_17 : decode cX4_lightestWithout 17 = .ok (.invokestatic 223, 3) := by decide +kernel
theorem dX4_lightestWithout_20 : decode cX4_lightestWithout 20 = .ok (.ifCond .ne 47, 3) := by decide +kernel
theorem dX4_lightestWithout_23 : decode cX4_lightestWithout 23 = .ok (.aload_n 0, 1) := by decide +kernel
theorem dX4_lightestWithout_24 : decode cX4_lightestWithout 24 = .ok (.getfield 23, 3) := by decide +kernel
theorem dX4_lightestWithout_27 : decode cX4_lightestWithout 27 = .ok (.iload 4, 2) := by decide +kernel
theorem dX4_lightestWithout_29 : decode cX4_lightestWithout 29 = .ok (.aaload, 1) := by decide +kernel
theorem dX4_lightestWithout_30 : decode cX4_lightestWithout 30 = .ok (.iload_n 2, 1) := by decide +kernel
theorem dX4_lightestWithout_31 : decode cX4_lightestWithout 31 = .ok (.invokevirtual 173, 3) := by decide +kernel
theorem dX4_lightestWithout_34 : decode cX4_lightestWithout 34 = .ok (.ifCond .ne 33, 3) := by decide +kernel
theorem dX4_lightestWithout_37 : decode cX4_lightestWithout 37 = .ok (.iload_n 3, 1) := by decide +kernel
theorem dX4_lightestWithout_38 : decode cX4_lightestWithout 38 = .ok (.iconst (-1), 1) := by decide +kernel
theorem dX4_lightestWithout_39 : decode cX4_lightestWithout 39 = .ok (.if_icmp .eq 25, 3) := by decide +kernel
theorem dX4_lightestWithout_42 : decode cX4_lightestWithout 42 = .ok (.aload_n 0, 1) := by decide +kernel
theorem dX4_lightestWithout_43 : decode cX4_lightestWithout 43 = .ok (.getfield 23, 3) := by decide +kernel
theorem dX4_lightestWithout_46 : decode cX4_lightestWithout 46 = .ok (.iload 4, 2) := by decide +kernel
theorem dX4_lightestWithout_48 : decode cX4_lightestWithout 48 = .ok (.aaload, 1) := by decide +kernel
theorem dX4_lightestWithout_49 : decode cX4_lightestWithout 49 = .ok (.getfield 428, 3) := by decide +kernel
theorem dX4_lightestWithout_52 : decode cX4_lightestWithout 52 = .ok (.aload_n 0, 1) := by decide +kernel
theorem dX4_lightestWithout_53 : decode cX4_lightestWithout 53 = .ok (.getfield 23, 3) := by decide +kernel
theorem dX4_lightestWithout_56 : decode cX4_lightestWithout 56 = .ok (.iload_n 3, 1) := by decide +kernel
theorem dX4_lightestWithout_57 : decode cX4_lightestWithout 57 = .ok (.aaload, 1) := by decide +kernel
theorem dX4_lightestWithout_58 : decode cX4_lightestWithout 58 = .ok (.getfield 428, 3) := by decide +kernel
theorem dX4_lightestWithout_61 : decode cX4_lightestWithout 61 = .ok (.if_icmp .ge 6, 3) := by decide +kernel
theorem dX4_lightestWithout_64 : decode cX4_lightestWithout 64 = .ok (.iload 4, 2) := by decide +kernel
theorem dX4_lightestWithout_66 : decode cX4_lightestWithout 66 = .ok (.istore_n 3, 1) := by decide +kernel
theorem dX4_lightestWithout_67 : decode cX4_lightestWithout 67 = .ok (.iinc 4 1, 3) := by decide +kernel
theorem dX4_lightestWithout_70 : decode cX4_lightestWithout 70 = .ok (.goto (-65), 3) := by decide +kernel
theorem dX4_lightestWithout_73 : decode cX4_lightestWithout 73 = .ok (.iload_n 3, 1) := by decide +kernel
theorem dX4_lightestWithout_74 : decode cX4_lightestWithout 74 = .ok (.ireturn, 1) := by decide +kernel
theorem dX4_readForDay_0 : decode cX4_readForDay 0 = .ok (.iconst 0, 1) := by decide +kernel
theorem dX4_readForDay_1 : decode cX4_readForDay 1 = .ok (.istore_n 1, 1) := by decide +kernel
theorem dX4_readForDay_2 : decode cX4_readForDay 2 = .ok (.aload_n 0, 1) := by decide +kernel
theorem dX4_readForDay_3 : decode cX4_readForDay 3 = .ok (.getfield 37, 3) := by decide +kernel
theorem dX4_readForDay_6 : decode cX4_readForDay 6 = .ok (.iconst 1, 1) := by decide +kernel
theorem dX4_readForDay_7 : decode cX4_readForDay 7 = .ok (.if_icmp .ne 35, 3) := by decide +kernel
theorem dX4_readForDay_10 : decode cX4_readForDay 10 = .ok (.iconst 0, 1) := by decide +kernel
theorem dX4_readForDay_11 : decode cX4_readForDay 11 = .ok (.istore_n 2, 1) := by decide +kernel
theorem dX4_readForDay_12 : decode cX4_readForDay 12 = .ok (.iload_n 2, 1) := by decide +kernel
theorem dX4_readForDay_13 : decode cX4_readForDay 13 = .ok (.aload_n 0, 1) := by decide +kernel
theorem dX4_readForDay_14 : decode cX4_readForDay 14 = .ok (.getfield 102, 3) := by decide +kernel
theorem dX4_readForDay_17 : decode cX4_readForDay 17 = .ok (.if_icmp .ge 25, 3) := by decide +kernel
theorem dX4_readForDay_20 : decode cX4_readForDay 20 = .ok (.iload_n 1, 1) := by decide +kernel
theorem dX4_readForDay_21 : decode cX4_readForDay 21 = .ok (.aload_n 0, 1) := by decide +kernel
theorem dX4_readForDay_22 : decode cX4_readForDay 22 = .ok (.getfield 23, 3) := by decide +kernel
theorem dX4_readForDay_25 : decode cX4_readForDay 25 = .ok (.iload_n 2, 1) := by decide +kernel
theorem dX4_readForDay_26 : decode cX4_readForDay 26 = .ok (.aaload, 1) := by decide +kernel
theorem dX4_readForDay_27 : decode cX4_readForDay 27 = .ok (.aload_n 0, 1) := by decide +kernel
theorem dX4_readForDay_28 : decode cX4_readForDay 28 = .ok (.getfield 17, 3) := by decide +kernel
theorem dX4_readForDay_31 : decode cX4_readForDay 31 = .ok (.invokevirtual 431, 3) := by decide +kernel
