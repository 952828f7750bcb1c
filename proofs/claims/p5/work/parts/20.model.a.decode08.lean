theorem dX12_next_135 : decode cX12_next 135 = .ok (.bipush 62, 2) := by decide +kernel
theorem dX12_next_137 : decode cX12_next 137 = .ok (.if_icmp .gt 7, 3) := by decide +kernel
theorem dX12_next_140 : decode cX12_next 140 = .ok (.iconst 3, 1) := by decide +kernel
theorem dX12_next_141 : decode cX12_next 141 = .ok (.goto 4, 3) := by decide +kernel
theorem dX12_next_144 : decode cX12_next 144 = .ok (.iconst 4, 1) := by decide +kernel
theorem dX12_next_145 : decode cX12_next 145 = .ok (.putfield 145, 3) := by decide +kernel
theorem dX12_next_148 : decode cX12_next 148 = .ok (.aload_n 0, 1) := by decide +kernel
theorem dX12_next_149 : decode cX12_next 149 = .ok (.iload_n 1, 1) := by decide +kernel
theorem dX12_next_150 : decode cX12_next 150 = .ok (.putfield 155, 3) := by decide +kernel
theorem dX12_next_153 : decode cX12_next 153 = .ok (.aload_n 0, 1) := by decide +kernel
theorem dX12_next_154 : decode cX12_next 154 = .ok (.dup, 1) := by decide +kernel
theorem dX12_next_155 : decode cX12_next 155 = .ok (.getfield 21, 3) := by decide +kernel
theorem dX12_next_158 : decode cX12_next 158 = .ok (.iconst 1, 1) := by decide +kernel
theorem dX12_next_159 : decode cX12_next 159 = .ok (.iadd, 1) := by decide +kernel
theorem dX12_next_160 : decode cX12_next 160 = .ok (.putfield 21, 3) := by decide +kernel
theorem dX12_next_163 : decode cX12_next 163 = .ok (.return_, 1) := by decide +kernel
theorem dX12_next_164 : decode cX12_next 164 = .ok (.iload_n 1, 1) := by decide +kernel
theorem dX12_next_165 : decode cX12_next 165 = .ok (.invokestatic 148, 3) := by decide +kernel
theorem dX12_next_168 : decode cX12_next 168 = .ok (.istore_n 2, 1) := by decide +kernel
theorem dX12_next_169 : decode cX12_next 169 = .ok (.iconst 1, 1) := by decide +kernel
theorem dX12_next_170 : decode cX12_next 170 = .ok (.istore_n 3, 1) := by decide +kernel
theorem dX12_next_171 : decode cX12_next 171 = .ok (.aload_n 0, 1) := by decide +kernel
theorem dX12_next_172 : decode cX12_next 172 = .ok (.lconst 0, 1) := by decide +kernel
theorem dX12_next_173 : decode cX12_next 173 = .ok (.putfield 158, 3) := by decide +kernel
theorem dX12_next_176 : decode cX12_next 176 = .ok (.aload_n 0, 1) := by decide +kernel
theorem dX12_next_177 : decode cX12_next 177 = .ok (.iconst 0, 1) := by decide +kernel
theorem dX12_next_178 : decode cX12_next 178 = .ok (.putfield 155, 3) := by decide +kernel
theorem dX12_next_181 : decode cX12_next 181 = .ok (.aload_n 0, 1) := by decide +kernel
theorem dX12_next_182 : decode cX12_next 182 = .ok (.invokevirtual 135, 3) := by decide +kernel
theorem dX12_next_185 : decode cX12_next 185 = .ok (.invokestatic 148, 3) := by decide +kernel
theorem dX12_next_188 : decode cX12_next 188 = .ok (.ifCond .ne 13, 3) := by decide +kernel
theorem dX12_next_191 : decode cX12_next 191 = .ok (.aload_n 0, 1) := by decide +kernel
theorem dX12_next_192 : decode cX12_next 192 = .ok (.invokevirtual 135, 3) := by decide +kernel
theorem dX12_next_195 : decode cX12_next 195 = .ok (.invokestatic 152, 3) := by decide +kernel
theorem dX12_next_198 : decode cX12_next 198 = .ok (.ifCond .eq 100, 3) := by decide +kernel
theorem dX12_next_201 : decode cX12_next 201 = .ok (.iload_n 3, 1) := by decide +kernel
theorem dX12_next_202 : decode cX12_next 202 = .ok (.ifCond .eq 18, 3) := by decide +kernel
theorem dX12_next_205 : decode cX12_next 205 = .ok (.aload_n 0, 1) := by decide +kernel
theorem dX12_next_206 : decode cX12_next 206 = .ok (.invokevirtual 135, 3) := by decide +kernel
theorem dX12_next_209 : decode cX12_next 209 = .ok (.invokestatic 148, 3) := by decide +kernel
theorem dX12_next_212 : decode cX12_next 212 = .ok (.iload_n 2, 1) := by decide +kernel
theorem dX12_next_213 : decode cX12_next 213 = .ok (.if_icmp .ne 7, 3) := by decide +kernel
theorem dX12_next_216 : decode cX12_next 216 = .ok (.iconst 1, 1) := by decide +kernel
theorem dX12_next_217 : decode cX12_next 217 = .ok (.goto 4, 3) := by decide +kernel
theorem dX12_next_220 : decode cX12_next 220 = .ok (.iconst 0, 1) := by decide +kernel
theorem dX12_next_221 : decode cX12_next 221 = .ok (.istore_n 3, 1) := by decide +kernel
theorem dX12_next_222 : decode cX12_next 222 = .ok (.aload_n 0, 1) := by decide +kernel
theorem dX12_next_223 : decode cX12_next 223 = .ok (.getfield 142, 3) := by decide +kernel
theorem dX12_next_226 : decode cX12_next 226 = .ok (.bipush 7, 2) := by decide +kernel
theorem dX12_next_228 : decode cX12_next 228 = .ok (.if_icmp .ge 20, 3) := by decide +kernel
theorem dX12_next_231 : decode cX12_next 231 = .ok (.aload_n 0, 1) := by decide +kernel
theorem dX12_next_232 : decode cX12_next 232 = .ok (.aload_n 0, 1) := by decide +kernel
theorem dX12_next_233 : decode cX12_next 233 = .ok (.getfield 158, 3) := by decide +kernel
theorem dX12_next_236 : decode cX12_next 236 = .ok (.bipush 8, 2) := by decide +kernel
theorem dX12_next_238 : decode cX12_next 238 = .ok (.lshl, 1) := by decide +kernel
theorem dX12_next_239 : decode cX12_next 239 = .ok (.aload_n 0, 1) := by decide +kernel
theorem dX12_next_240 : decode cX12_next 240 = .ok (.invokevirtual 135, 3) := by decide +kernel
theorem dX12_next_243 : decode cX12_next 243 = .ok (.i2l, 1) := by decide +kernel
theorem dX12_next_244 : decode cX12_next 244 = .ok (.lor, 1) := by decide +kernel
theorem dX12_next_245 : decode cX12_next 245 = .ok (.putfield 158, 3) := by decide +kernel
theorem dX12_next_248 : decode cX12_next 248 = .ok (.aload_n 0, 1) := by decide +kernel
theorem dX12_next_249 : decode cX12_next 249 = .ok (.getfield 142, 3) := by decide +kernel
theorem dX12_next_252 : decode cX12_next 252 = .ok (.iconst 3, 1) := by decide +kernel
theorem dX12_next_253 : decode cX12_next 253 = .ok (.if_icmp .ge 22, 3) := by decide +kernel
theorem dX12_next_256 : decode cX12_next 256 = .ok (.aload_n 0, 1) := by decide +kernel
theorem dX12_next_257 : decode cX12_next 257 = .ok (.bipush 10, 2) := by decide +kernel
theorem dX12_next_259 : decode cX12_next 259 = .ok (.aload_n 0, 1) := by decide +kernel
theorem dX12_next_260 : decode cX12_next 260 = .ok (.getfield 155, 3) := by decide +kernel
theorem dX12_next_263 : decode cX12_next 263 = .ok (.imul, 1) := by decide +kernel
theorem dX12_next_264 : decode cX12_next 264 = .ok (.aload_n 0, 1) := by decide +kernel
theorem dX12_next_265 : decode cX12_next 265 = .ok (.invokevirtual 135, 3) := by decide +kernel
theorem dX12_next_268 : decode cX12_next 268 = .ok (.iadd, 1) := by decide +kernel
theorem dX12_next_269 : decode cX12_next 269 = .ok (.bipush 48, 2) := by decide +kernel
theorem dX12_next_271 : decode cX12_next 271 = .ok (.isub, 1) := by decide +kernel
theorem dX12_next_272 : decode cX12_next 272 = .ok (.putfield 155, 3) := by decide +kernel
theorem dX12_next_275 : decode cX12_next 275 = .ok (.aload_n 0, 1) := by decide +kernel
theorem dX12_next_276 : decode cX12_next 276 = .ok (.dup, 1) := by decide +kernel
theorem dX12_next_277 : decode cX12_next 277 = .ok (.getfield 142, 3) := by decide +kernel
theorem dX12_next_280 : decode cX12_next 280 = .ok (.iconst 1, 1) := by decide +kernel
theorem dX12_next_281 : decode cX12_next 281 = .ok (.iadd, 1) := by decide +kernel
theorem dX12_next_282 : decode cX12_next 282 = .ok (.putfield 142, 3) := by decide +kernel
theorem dX12_next_285 : decode cX12_next 285 = .ok (.aload_n 0, 1) := by decide +kernel
theorem dX12_next_286 : decode cX12_next 286 = .ok (.dup, 1) := by decide +kernel
theorem dX12_next_287 : decode cX12_next 287 = .ok (.getfield 21, 3) := by decide +kernel
theorem dX12_next_290 : decode cX12_next 290 = .ok (.iconst 1, 1) := by decide +kernel
theorem dX12_next_291 : decode cX12_next 291 = .ok (.iadd, 1) := by decide +kernel
theorem dX12_next_292 : decode cX12_next 292 = .ok (.putfield 21, 3) := by decide +kernel
theorem dX12_next_295 : decode cX12_next 295 = .ok (.goto (-114), 3) := by decide +kernel
theorem dX12_next_298 : decode cX12_next 298 = .ok (.aload_n 0, 1) := by decide +kernel
theorem dX12_next_299 : decode cX12_next 299 = .ok (.iload_n 3, 1) := by decide +kernel
theorem dX12_next_300 : decode cX12_next 300 = .ok (.ifCond .eq 20, 3) := by decide +kernel
theorem dX12_next_303 : decode cX12_next 303 = .ok (.aload_n 0, 1) := by decide +kernel
theorem dX12_next_304 : decode cX12_next 304 = .ok (.getfield 142, 3) := by decide +kernel
theorem dX12_next_307 : decode cX12_next 307 = .ok (.iload_n 2, 1) := by decide +kernel
theorem dX12_next_308 : decode cX12_next 308 = .ok (.ifCond .eq 8, 3) := by decide +kernel
theorem dX12_next_311 : decode cX12_next 311 = .ok (.bipush 7, 2) := by decide +kernel
theorem dX12_next_313 : decode cX12_next 313 = .ok (.goto 4, 3) := by decide +kernel
theorem dX12_next_316 : decode cX12_next 316 = .ok (.iconst 3, 1) := by decide +kernel
theorem dX12_next_317 : decode cX12_next 317 = .ok (.if_icmp .le 7, 3) := by decide +kernel
theorem dX12_next_320 : decode cX12_next 320 = .ok (.iconst 4, 1) := by decide +kernel
theorem dX12_next_321 : decode cX12_next 321 = .ok (.goto 12, 3) := by decide +kernel
theorem dX12_next_324 : decode cX12_next 324 = .ok (.iload_n 2, 1) := by decide +kernel
theorem dX12_next_325 : decode cX12_next 325 = .ok (.ifCond .eq 7, 3) := by decide +kernel
theorem dX12_next_328 : decode cX12_next 328 = .ok (.iconst 1, 1) := by decide +kernel
theorem dX12_next_329 : decode cX12_next 329 = .ok (.goto 4, 3) := by decide +kernel
theorem dX12_next_332 : decode cX12_next 332 = .ok (.iconst 2, 1) := by decide +kernel
theorem dX12_next_333 : decode cX12_next 333 = .ok (.putfield 145, 3) := by decide +kernel
theorem dX12_next_336 : decode cX12_next 336 = .ok (.return_, 1) := by decide +kernel
theorem dX12_nots_0 : decode cX12_nots 0 = .ok (.aload_n 0, 1) := by decide +kernel
theorem dX12_nots_1 : decode cX12_nots 1 = .ok (.getfield 421, 3) := by decide +kernel
theorem dX12_nots_4 : decode cX12_nots 4 = .ok (.ifCond .le 50, 3) := by decide +kernel
theorem dX12_nots_7 : decode cX12_nots 7 = .ok (.aload_n 0, 1) := by decide +kernel
theorem dX12_nots_8 : decode cX12_nots 8 = .ok (.getfield 65, 3) := by decide +kernel
theorem dX12_nots_11 : decode cX12_nots 11 = .ok (.aload_n 0, 1) := by decide +kernel
theorem dX12_nots_12 : decode cX12_nots 12 = .ok (.getfield 421, 3) := by decide +kernel
theorem dX12_nots_15 : decode cX12_nots 15 = .ok (.iconst 1, 1) := by decide +kernel
theorem dX12_nots_16 : decode cX12_nots 16 = .ok (.isub, 1) := by decide +kernel
theorem dX12_nots_17 : decode cX12_nots 17 = .ok (.iaload, 1) := by decide +kernel
theorem dX12_nots_18 : decode cX12_nots 18 = .ok (.bipush 20, 2) := by decide +kernel
theorem dX12_nots_20 : decode cX12_nots 20 = .ok (.if_icmp .ne 34, 3) := by decide +kernel
theorem dX12_nots_23 : decode cX12_nots 23 = .ok (.aload_n 0, 1) := by decide +kernel
theorem dX12_nots_24 : decode cX12_nots 24 = .ok (.dup, 1) := by decide +kernel
theorem dX12_nots_25 : decode cX12_nots 25 = .ok (.getfield 421, 3) := by decide +kernel
theorem dX12_nots_28 : decode cX12_nots 28 = .ok (.iconst 1, 1) := by decide +kernel
theorem dX12_nots_29 : decode cX12_nots 29 = .ok (.isub, 1) := by decide +kernel
theorem dX12_nots_30 : decode cX12_nots 30 = .ok (.putfield 421, 3) := by decide +kernel
theorem dX12_nots_33 : decode cX12_nots 33 = .ok (.aload_n 0, 1) := by decide +kernel
theorem dX12_nots_34 : decode cX12_nots 34 = .ok (.dup, 1) := by decide +kernel
theorem dX12_nots_35 : decode cX12_nots 35 = .ok (.getfield 427, 3) := by decide +kernel
theorem dX12_nots_38 : decode cX12_nots 38 = .ok (.iconst 1, 1) := by decide +kernel
theorem dX12_nots_39 : decode cX12_nots 39 = .ok (.isub, 1) := by decide +kernel
theorem dX12_nots_40 : decode cX12_nots 40 = .ok (.putfield 427, 3) := by decide +kernel
theorem dX12_nots_43 : decode cX12_nots 43 = .ok (.aload_n 0, 1) := by decide +kernel
theorem dX12_nots_44 : decode cX12_nots 44 = .ok (.bipush 20, 2) := by decide +kernel
theorem dX12_nots_46 : decode cX12_nots 46 = .ok (.iconst 0, 1) := by decide +kernel
theorem dX12_nots_47 : decode cX12_nots 47 = .ok (.iconst 0, 1) := by decide +kernel
theorem dX12_nots_48 : decode cX12_nots 48 = .ok (.invokevirtual 424, 3) := by decide +kernel
theorem dX12_nots_51 : decode cX12_nots 51 = .ok (.goto (-51), 3) := by decide +kernel
theorem dX12_nots_54 : decode cX12_nots 54 = .ok (.return_, 1) := by decide +kernel
theorem dX12_now_0 : decode cX12_now 0 = .ok (.aload_n 0, 1) := by decide +kernel
theorem dX12_now_1 : decode cX12_now 1 = .ok (.iconst 0, 1) := by decide +kernel
theorem dX12_now_2 : decode cX12_now 2 = .ok (.putfield 1, 3) := by decide +kernel
theorem dX12_now_5 : decode cX12_now 5 = .ok (.iload_n 1, 1) := by decide +kernel
theorem dX12_now_6 : decode cX12_now 6 = .ok (.tableswitch 112 0 6 #[42, 51, 73, 78, 87, 95, 103], 42) := by decide +kernel
theorem dX12_now_48 : decode cX12_now 48 = .ok (.aload_n 0, 1) := by decide +kernel
theorem dX12_now_49 : decode cX12_now 49 = .ok (.getfield 33, 3) := by decide +kernel
theorem dX12_now_52 : decode cX12_now 52 = .ok (.sipush 146, 3) := by decide +kernel
theorem dX12_now_55 : decode cX12_now 55 = .ok (.iaload, 1) := by decide +kernel
theorem dX12_now_56 : decode cX12_now 56 = .ok (.ireturn, 1) := by decide +kernel
theorem dX12_now_57 : decode cX12_now 57 = .ok (.iconst 1, 1) := by decide +kernel
theorem dX12_now_58 : decode cX12_now 58 = .ok (.aload_n 0, 1) := by decide +kernel
theorem dX12_now_59 : decode cX12_now 59 = .ok (.getfield 33, 3) := by decide +kernel
theorem dX12_now_62 : decode cX12_now 62 = .ok (.iconst 1, 1) := by decide +kernel
theorem dX12_now_63 : decode cX12_now 63 = .ok (.iaload, 1) := by decide +kernel
theorem dX12_now_64 : decode cX12_now 64 = .ok (.ishl, 1) := by decide +kernel
theorem dX12_now_65 : decode cX12_now 65 = .ok (.iconst 1, 1) := by decide +kernel
theorem dX12_now_66 : decode cX12_now 66 = .ok (.isub, 1) := by decide +kernel
theorem dX12_now_67 : decode cX12_now 67 = .ok (.aload_n 0, 1) := by decide +kernel
theorem dX12_now_68 : decode cX12_now 68 = .ok (.getfield 33, 3) := by decide +kernel
theorem dX12_now_71 : decode cX12_now 71 = .ok (.sipush 147, 3) := by decide +kernel
theorem dX12_now_74 : decode cX12_now 74 = .ok (.iaload, 1) := by decide +kernel
theorem dX12_now_75 : decode cX12_now 75 = .ok (.iconst (-1), 1) := by decide +kernel
theorem dX12_now_76 : decode cX12_now 76 = .ok (.ixor, 1) := by decide +kernel
theorem dX12_now_77 : decode cX12_now 77 = .ok (.iand, 1) := by decide +kernel
theorem dX12_now_78 : decode cX12_now 78 = .ok (.ireturn, 1) := by decide +kernel
theorem dX12_now_79 : decode cX12_now 79 = .ok (.aload_n 0, 1) := by decide +kernel
theorem dX12_now_80 : decode cX12_now 80 = .ok (.invokevirtual 262, 3) := by decide +kernel
theorem dX12_now_83 : decode cX12_now 83 = .ok (.ireturn, 1) := by decide +kernel
theorem dX12_now_84 : decode cX12_now 84 = .ok (.aload_n 0, 1) := by decide +kernel
theorem dX12_now_85 : decode cX12_now 85 = .ok (.getfield 33, 3) := by decide +kernel
theorem dX12_now_88 : decode cX12_now 88 = .ok (.sipush 151, 3) := by decide +kernel
theorem dX12_now_91 : decode cX12_now 91 = .ok (.iaload, 1) := by decide +kernel
theorem dX12_now_92 : decode cX12_now 92 = .ok (.ireturn, 1) := by decide +kernel
theorem dX12_now_93 : decode cX12_now 93 = .ok (.aload_n 0, 1) := by decide +kernel
theorem dX12_now_94 : decode cX12_now 94 = .ok (.sipush 170, 3) := by decide +kernel
theorem dX12_now_97 : decode cX12_now 97 = .ok (.invokevirtual 265, 3) := by decide +kernel
theorem dX12_now_100 : decode cX12_now 100 = .ok (.ireturn, 1) := by decide +kernel
theorem dX12_now_101 : decode cX12_now 101 = .ok (.aload_n 0, 1) := by decide +kernel
theorem dX12_now_102 : decode cX12_now 102 = .ok (.sipush 188, 3) := by decide +kernel
theorem dX12_now_105 : decode cX12_now 105 = .ok (.invokevirtual 265, 3) := by decide +kernel
theorem dX12_now_108 : decode cX12_now 108 = .ok (.ireturn, 1) := by decide +kernel
theorem dX12_now_109 : decode cX12_now 109 = .ok (.aload_n 0, 1) := by decide +kernel
theorem dX12_now_110 : decode cX12_now 110 = .ok (.getfield 33, 3) := by decide +kernel
theorem dX12_now_113 : decode cX12_now 113 = .ok (.sipush 150, 3) := by decide +kernel
theorem dX12_now_116 : decode cX12_now 116 = .ok (.iaload, 1) := by decide +kernel
theorem dX12_now_117 : decode cX12_now 117 = .ok (.ireturn, 1) := by decide +kernel
theorem dX12_now_118 : decode cX12_now 118 = .ok (.iconst (-1), 1) := by decide +kernel
theorem dX12_now_119 : decode cX12_now 119 = .ok (.ireturn, 1) := by decide +kernel
theorem dX12_octet_0 : decode cX12_octet 0 = .ok (.aload_n 0, 1) := by decide +kernel
theorem dX12_octet_1 : decode cX12_octet 1 = .ok (.getfield 14, 3) := by decide +kernel
theorem dX12_octet_4 : decode cX12_octet 4 = .ok (.iload_n 1, 1) := by decide +kernel
theorem dX12_octet_5 : decode cX12_octet 5 = .ok (.baload, 1) := by decide +kernel
theorem dX12_octet_6 : decode cX12_octet 6 = .ok (.sipush 255, 3) := by decide +kernel
theorem dX12_octet_9 : decode cX12_octet 9 = .ok (.iand, 1) := by decide +kernel
theorem dX12_octet_10 : decode cX12_octet 10 = .ok (.ireturn, 1) := by decide +kernel
theorem dX12_odds_0 : decode cX12_odds 0 = .ok (.aload_n 0, 1) := by decide +kernel
theorem dX12_odds_1 : decode cX12_odds 1 = .ok (.iconst 0, 1) := by decide +kernel
theorem dX12_odds_2 : decode cX12_odds 2 = .ok (.putfield 1, 3) := by decide +kernel
theorem dX12_odds_5 : decode cX12_odds 5 = .ok (.aload_n 0, 1) := by decide +kernel
theorem dX12_odds_6 : decode cX12_odds 6 = .ok (.iload_n 1, 1) := by decide +kernel
theorem dX12_odds_7 : decode cX12_odds 7 = .ok (.invokevirtual 236, 3) := by decide +kernel
theorem dX12_odds_10 : decode cX12_odds 10 = .ok (.ifCond .eq 22, 3) := by decide +kernel
theorem dX12_odds_13 : decode cX12_odds 13 = .ok (.iload_n 2, 1) := by decide +kernel
theorem dX12_odds_14 : decode cX12_odds 14 = .ok (.iconst 1, 1) := by decide +kernel
theorem dX12_odds_15 : decode cX12_odds 15 = .ok (.bipush 30, 2) := by decide +kernel
theorem dX12_odds_17 : decode cX12_odds 17 = .ok (.invokestatic 177, 3) := by decide +kernel
theorem dX12_odds_20 : decode cX12_odds 20 = .ok (.ifCond .eq 12, 3) := by decide +kernel
theorem dX12_odds_23 : decode cX12_odds 23 = .ok (.aload_n 0, 1) := by decide +kernel
theorem dX12_odds_24 : decode cX12_odds 24 = .ok (.getfield 33, 3) := by decide +kernel
theorem dX12_odds_27 : decode cX12_odds 27 = .ok (.iconst 0, 1) := by decide +kernel
theorem dX12_odds_28 : decode cX12_odds 28 = .ok (.iaload, 1) := by decide +kernel
theorem dX12_odds_29 : decode cX12_odds 29 = .ok (.ifCond .ne 5, 3) := by decide +kernel
theorem dX12_odds_32 : decode cX12_odds 32 = .ok (.iconst (-1), 1) := by decide +kernel
theorem dX12_odds_33 : decode cX12_odds 33 = .ok (.ireturn, 1) := by decide +kernel
theorem dX12_odds_34 : decode cX12_odds 34 = .ok (.aload_n 0, 1) := by decide +kernel
theorem dX12_odds_35 : decode cX12_odds 35 = .ok (.invokevirtual 395, 3) := by decide +kernel
theorem dX12_odds_38 : decode cX12_odds 38 = .ok (.iconst 0, 1) := by decide +kernel
theorem dX12_odds_39 : decode cX12_odds 39 = .ok (.istore 4, 2) := by decide +kernel
theorem dX12_odds_41 : decode cX12_odds 41 = .ok (.iconst 0, 1) := by decide +kernel
theorem dX12_odds_42 : decode cX12_odds 42 = .ok (.istore 5, 2) := by decide +kernel
theorem dX12_odds_44 : decode cX12_odds 44 = .ok (.iload 5, 2) := by decide +kernel
theorem dX12_odds_46 : decode cX12_odds 46 = .ok (.iload_n 2, 1) := by decide +kernel
theorem dX12_odds_47 : decode cX12_odds 47 = .ok (.if_icmp .ge 47, 3) := by decide +kernel
theorem dX12_odds_50 : decode cX12_odds 50 = .ok (.aload_n 0, 1) := by decide +kernel
theorem dX12_odds_51 : decode cX12_odds 51 = .ok (.bipush 20, 2) := by decide +kernel
theorem dX12_odds_53 : decode cX12_odds 53 = .ok (.iload_n 3, 1) := by decide +kernel
theorem dX12_odds_54 : decode cX12_odds 54 = .ok (.iload 5, 2) := by decide +kernel
theorem dX12_odds_56 : decode cX12_odds 56 = .ok (.iadd, 1) := by decide +kernel
theorem dX12_odds_57 : decode cX12_odds 57 = .ok (.invokevirtual 392, 3) := by decide +kernel
theorem dX12_odds_60 : decode cX12_odds 60 = .ok (.pop, 1) := by decide +kernel
theorem dX12_odds_61 : decode cX12_odds 61 = .ok (.iload 4, 2) := by decide +kernel
theorem dX12_odds_63 : decode cX12_odds 63 = .ok (.aload_n 0, 1) := by decide +kernel
theorem dX12_odds_64 : decode cX12_odds 64 = .ok (.getfield 33, 3) := by decide +kernel
theorem dX12_odds_67 : decode cX12_odds 67 = .ok (.sipush 161, 3) := by decide +kernel
theorem dX12_odds_70 : decode cX12_odds 70 = .ok (.iload_n 1, 1) := by decide +kernel
theorem dX12_odds_71 : decode cX12_odds 71 = .ok (.iadd, 1) := by decide +kernel
theorem dX12_odds_72 : decode cX12_odds 72 = .ok (.iaload, 1) := by decide +kernel
theorem dX12_odds_73 : decode cX12_odds 73 = .ok (.ifCond .le 7, 3) := by decide +kernel
theorem dX12_odds_76 : decode cX12_odds 76 = .ok (.iconst 1, 1) := by decide +kernel
theorem dX12_odds_77 : decode cX12_odds 77 = .ok (.goto 4, 3) := by decide +kernel
theorem dX12_odds_80 : decode cX12_odds 80 = .ok (.iconst 0, 1) := by decide +kernel
theorem dX12_odds_81 : decode cX12_odds 81 = .ok (.iadd, 1) := by decide +kernel
theorem dX12_odds_82 : decode cX12_odds 82 = .ok (.istore 4, 2) := by decide +kernel
theorem dX12_odds_84 : decode cX12_odds 84 = .ok (.aload_n 0, 1) := by decide +kernel
theorem dX12_odds_85 : decode cX12_odds 85 = .ok (.invokevirtual 398, 3) := by decide +kernel
theorem dX12_odds_88 : decode cX12_odds 88 = .ok (.iinc 5 1, 3) := by decide +kernel
theorem dX12_odds_91 : decode cX12_odds 91 = .ok (.goto (-47), 3) := by decide +kernel
theorem dX12_odds_94 : decode cX12_odds 94 = .ok (.iload 4, 2) := by decide +kernel
theorem dX12_odds_96 : decode cX12_odds 96 = .ok (.ireturn, 1) := by decide +kernel
theorem dX12_operand_0 : decode cX12_operand 0 = .ok (.aload_n 0, 1) := by decide +kernel
theorem dX12_operand_1 : decode cX12_operand 1 = .ok (.ldc2_w 117, 3) := by decide +kernel
theorem dX12_operand_4 : decode cX12_operand 4 = .ok (.invokevirtual 196, 3) := by decide +kernel
theorem dX12_operand_7 : decode cX12_operand 7 = .ok (.istore_n 1, 1) := by decide +kernel
theorem dX12_operand_8 : decode cX12_operand 8 = .ok (.aload_n 0, 1) := by decide +kernel
theorem dX12_operand_9 : decode cX12_operand 9 = .ok (.bipush 40, 2) := by decide +kernel
theorem dX12_operand_11 : decode cX12_operand 11 = .ok (.invokevirtual 168, 3) := by decide +kernel
theorem dX12_operand_14 : decode cX12_operand 14 = .ok (.istore_n 2, 1) := by decide +kernel
theorem dX12_operand_15 : decode cX12_operand 15 = .ok (.aload_n 0, 1) := by decide +kernel
theorem dX12_operand_16 : decode cX12_operand 16 = .ok (.invokevirtual 430, 3) := by decide +kernel
theorem dX12_operand_19 : decode cX12_operand 19 = .ok (.istore_n 3, 1) := by decide +kernel
theorem dX12_operand_20 : decode cX12_operand 20 = .ok (.iload_n 1, 1) := by decide +kernel
theorem dX12_operand_21 : decode cX12_operand 21 = .ok (.ifCond .ne 17, 3) := by decide +kernel
theorem dX12_operand_24 : decode cX12_operand 24 = .ok (.iload_n 2, 1) := by decide +kernel
theorem dX12_operand_25 : decode cX12_operand 25 = .ok (.ifCond .ne 13, 3) := by decide +kernel
theorem dX12_operand_28 : decode cX12_operand 28 = .ok (.iload_n 3, 1) := by decide +kernel
theorem dX12_operand_29 : decode cX12_operand 29 = .ok (.ifCond .ge 9, 3) := by decide +kernel
theorem dX12_operand_32 : decode cX12_operand 32 = .ok (.aload_n 0, 1) := by decide +kernel
theorem dX12_operand_33 : decode cX12_operand 33 = .ok (.iconst 1, 1) := by decide +kernel
theorem dX12_operand_34 : decode cX12_operand 34 = .ok (.invokevirtual 171, 3) := by decide +kernel
theorem dX12_operand_37 : decode cX12_operand 37 = .ok (.ireturn, 1) := by decide +kernel
theorem dX12_operand_38 : decode cX12_operand 38 = .ok (.aload_n 0, 1) := by decide +kernel
theorem dX12_operand_39 : decode cX12_operand 39 = .ok (.getfield 433, 3) := by decide +kernel
theorem dX12_operand_42 : decode cX12_operand 42 = .ok (.bipush 20, 2) := by decide +kernel
theorem dX12_operand_44 : decode cX12_operand 44 = .ok (.if_icmp .eq 12, 3) := by decide +kernel
theorem dX12_operand_47 : decode cX12_operand 47 = .ok (.aload_n 0, 1) := by decide +kernel
theorem dX12_operand_48 : decode cX12_operand 48 = .ok (.getfield 427, 3) := by decide +kernel
theorem dX12_operand_51 : decode cX12_operand 51 = .ok (.bipush 8, 2) := by decide +kernel
theorem dX12_operand_53 : decode cX12_operand 53 = .ok (.if_icmp .le 9, 3) := by decide +kernel
theorem dX12_operand_56 : decode cX12_operand 56 = .ok (.aload_n 0, 1) := by decide +kernel
theorem dX12_operand_57 : decode cX12_operand 57 = .ok (.iconst 4, 1) := by decide +kernel
theorem dX12_operand_58 : decode cX12_operand 58 = .ok (.invokevirtual 171, 3) := by decide +kernel
theorem dX12_operand_61 : decode cX12_operand 61 = .ok (.ireturn, 1) := by decide +kernel
theorem dX12_operand_62 : decode cX12_operand 62 = .ok (.aload_n 0, 1) := by decide +kernel
theorem dX12_operand_63 : decode cX12_operand 63 = .ok (.dup, 1) := by decide +kernel
theorem dX12_operand_64 : decode cX12_operand 64 = .ok (.getfield 433, 3) := by decide +kernel
theorem dX12_operand_67 : decode cX12_operand 67 = .ok (.iconst 1, 1) := by decide +kernel
theorem dX12_operand_68 : decode cX12_operand 68 = .ok (.iadd, 1) := by decide +kernel
theorem dX12_operand_69 : decode cX12_operand 69 = .ok (.putfield 433, 3) := by decide +kernel
theorem dX12_operand_72 : decode cX12_operand 72 = .ok (.aload_n 0, 1) := by decide +kernel
theorem dX12_operand_73 : decode cX12_operand 73 = .ok (.invokevirtual 174, 3) := by decide +kernel
theorem dX12_operand_76 : decode cX12_operand 76 = .ok (.iload_n 1, 1) := by decide +kernel
theorem dX12_operand_77 : decode cX12_operand 77 = .ok (.ifCond .ne 7, 3) := by decide +kernel
theorem dX12_operand_80 : decode cX12_operand 80 = .ok (.iload_n 2, 1) := by decide +kernel
theorem dX12_operand_81 : decode cX12_operand 81 = .ok (.ifCond .eq 45, 3) := by decide +kernel
theorem dX12_operand_84 : decode cX12_operand 84 = .ok (.aload_n 0, 1) := by decide +kernel
theorem dX12_operand_85 : decode cX12_operand 85 = .ok (.getfield 65, 3) := by decide +kernel
theorem dX12_operand_88 : decode cX12_operand 88 = .ok (.aload_n 0, 1) := by decide +kernel
theorem dX12_operand_89 : decode cX12_operand 89 = .ok (.getfield 421, 3) := by decide +kernel
theorem dX12_operand_92 : decode cX12_operand 92 = .ok (.iload_n 1, 1) := by decide +kernel
theorem dX12_operand_93 : decode cX12_operand 93 = .ok (.ifCond .eq 8, 3) := by decide +kernel
theorem dX12_operand_96 : decode cX12_operand 96 = .ok (.bipush 20, 2) := by decide +kernel
theorem dX12_operand_98 : decode cX12_operand 98 = .ok (.goto 5, 3) := by decide +kernel
theorem dX12_operand_101 : decode cX12_operand 101 = .ok (.bipush 23, 2) := by decide +kernel
theorem dX12_operand_103 : decode cX12_operand 103 = .ok (.iastore, 1) := by decide +kernel
theorem dX12_operand_104 : decode cX12_operand 104 = .ok (.aload_n 0, 1) := by decide +kernel
theorem dX12_operand_105 : decode cX12_operand 105 = .ok (.dup, 1) := by decide +kernel
theorem dX12_operand_106 : decode cX12_operand 106 = .ok (.getfield 421, 3) := by decide +kernel
theorem dX12_operand_109 : decode cX12_operand 109 = .ok (.iconst 1, 1) := by decide +kernel
theorem dX12_operand_110 : decode cX12_operand 110 = .ok (.iadd, 1) := by decide +kernel
theorem dX12_operand_111 : decode cX12_operand 111 = .ok (.putfield 421, 3) := by decide +kernel
theorem dX12_operand_114 : decode cX12_operand 114 = .ok (.aload_n 0, 1) := by decide +kernel
theorem dX12_operand_115 : decode cX12_operand 115 = .ok (.dup, 1) := by decide +kernel
theorem dX12_operand_116 : decode cX12_operand 116 = .ok (.getfield 427, 3) := by decide +kernel
theorem dX12_operand_119 : decode cX12_operand 119 = .ok (.iconst 1, 1) := by decide +kernel
theorem dX12_operand_120 : decode cX12_operand 120 = .ok (.iadd, 1) := by decide +kernel
theorem dX12_operand_121 : decode cX12_operand 121 = .ok (.putfield 427, 3) := by decide +kernel
theorem dX12_operand_124 : decode cX12_operand 124 = .ok (.iconst 1, 1) := by decide +kernel
theorem dX12_operand_125 : decode cX12_operand 125 = .ok (.ireturn, 1) := by decide +kernel
theorem dX12_operand_126 : decode cX12_operand 126 = .ok (.aload_n 0, 1) := by decide +kernel
theorem dX12_operand_127 : decode cX12_operand 127 = .ok (.iconst 1, 1) := by decide +kernel
theorem dX12_operand_128 : decode cX12_operand 128 = .ok (.putfield 436, 3) := by decide +kernel
theorem dX12_operand_131 : decode cX12_operand 131 = .ok (.iload_n 3, 1) := by decide +kernel
theorem dX12_operand_132 : decode cX12_operand 132 = .ok (.iconst 4, 1) := by decide +kernel
theorem dX12_operand_133 : decode cX12_operand 133 = .ok (.if_icmp .ge 12, 3) := by decide +kernel
theorem dX12_operand_136 : decode cX12_operand 136 = .ok (.aload_n 0, 1) := by decide +kernel
theorem dX12_operand_137 : decode cX12_operand 137 = .ok (.iload_n 3, 1) := by decide +kernel
theorem dX12_operand_138 : decode cX12_operand 138 = .ok (.iconst 0, 1) := by decide +kernel
theorem dX12_operand_139 : decode cX12_operand 139 = .ok (.iconst 0, 1) := by decide +kernel
theorem dX12_operand_140 : decode cX12_operand 140 = .ok (.invokevirtual 424, 3) := by decide +kernel
theorem dX12_operand_143 : decode cX12_operand 143 = .ok (.iconst 1, 1) := by decide +kernel
theorem dX12_operand_144 : decode cX12_operand 144 = .ok (.ireturn, 1) := by decide +kernel
theorem dX12_operand_145 : decode cX12_operand 145 = .ok (.iload_n 3, 1) := by decide +kernel
theorem dX12_operand_146 : decode cX12_operand 146 = .ok (.iconst 4, 1) := by decide +kernel
theorem dX12_operand_147 : decode cX12_operand 147 = .ok (.if_icmp .ne 35, 3) := by decide +kernel
theorem dX12_operand_150 : decode cX12_operand 150 = .ok (.aload_n 0, 1) := by decide +kernel
theorem dX12_operand_151 : decode cX12_operand 151 = .ok (.iconst 0, 1) := by decide +kernel
theorem dX12_operand_152 : decode cX12_operand 152 = .ok (.aload_n 0, 1) := by decide +kernel
theorem dX12_operand_153 : decode cX12_operand 153 = .ok (.getfield 33, 3) := by decide +kernel
theorem dX12_operand_156 : decode cX12_operand 156 = .ok (.iconst 0, 1) := by decide +kernel
theorem dX12_operand_157 : decode cX12_operand 157 = .ok (.iaload, 1) := by decide +kernel
theorem dX12_operand_158 : decode cX12_operand 158 = .ok (.invokevirtual 209, 3) := by decide +kernel
theorem dX12_operand_161 : decode cX12_operand 161 = .ok (.ifCond .ne 5, 3) := by decide +kernel
theorem dX12_operand_164 : decode cX12_operand 164 = .ok (.iconst 0, 1) := by decide +kernel
theorem dX12_operand_165 : decode cX12_operand 165 = .ok (.ireturn, 1) := by decide +kernel
theorem dX12_operand_166 : decode cX12_operand 166 = .ok (.aload_n 0, 1) := by decide +kernel
theorem dX12_operand_167 : decode cX12_operand 167 = .ok (.iload_n 3, 1) := by decide +kernel
theorem dX12_operand_168 : decode cX12_operand 168 = .ok (.iconst 0, 1) := by decide +kernel
theorem dX12_operand_169 : decode cX12_operand 169 = .ok (.aload_n 0, 1) := by decide +kernel
theorem dX12_operand_170 : decode cX12_operand 170 = .ok (.getfield 181, 3) := by decide +kernel
theorem dX12_operand_173 : decode cX12_operand 173 = .ok (.invokevirtual 424, 3) := by decide +kernel
theorem dX12_operand_176 : decode cX12_operand 176 = .ok (.aload_n 0, 1) := by decide +kernel
theorem dX12_operand_177 : decode cX12_operand 177 = .ok (.invokevirtual 174, 3) := by decide +kernel
theorem dX12_operand_180 : decode cX12_operand 180 = .ok (.iconst 1, 1) := by decide +kernel
theorem dX12_operand_181 : decode cX12_operand 181 = .ok (.ireturn, 1) := by decide +kernel
theorem dX12_operand_182 : decode cX12_operand 182 = .ok (.aload_n 0, 1) := by decide +kernel
theorem dX12_operand_183 : decode cX12_operand 183 = .ok (.getfield 145, 3) := by decide +kernel
theorem dX12_operand_186 : decode cX12_operand 186 = .ok (.iconst 3, 1) := by decide +kernel
theorem dX12_operand_187 : decode cX12_operand 187 = .ok (.if_icmp .ne 21, 3) := by decide +kernel
theorem dX12_operand_190 : decode cX12_operand 190 = .ok (.aload_n 0, 1) := by decide +kernel
theorem dX12_operand_191 : decode cX12_operand 191 = .ok (.getfield 155, 3) := by decide +kernel
theorem dX12_operand_194 : decode cX12_operand 194 = .ok (.bipush 60, 2) := by decide +kernel
theorem dX12_operand_196 : decode cX12_operand 196 = .ok (.if_icmp .lt 12, 3) := by decide +kernel
theorem dX12_operand_199 : decode cX12_operand 199 = .ok (.aload_n 0, 1) := by decide +kernel
theorem dX12_operand_200 : decode cX12_operand 200 = .ok (.getfield 155, 3) := by decide +kernel
theorem dX12_operand_203 : decode cX12_operand 203 = .ok (.bipush 62, 2) := by decide +kernel
theorem dX12_operand_205 : decode cX12_operand 205 = .ok (.if_icmp .le 9, 3) := by decide +kernel
theorem dX12_operand_208 : decode cX12_operand 208 = .ok (.aload_n 0, 1) := by decide +kernel
theorem dX12_operand_209 : decode cX12_operand 209 = .ok (.iconst 1, 1) := by decide +kernel
theorem dX12_operand_210 : decode cX12_operand 210 = .ok (.invokevirtual 171, 3) := by decide +kernel
theorem dX12_operand_213 : decode cX12_operand 213 = .ok (.ireturn, 1) := by decide +kernel
theorem dX12_operand_214 : decode cX12_operand 214 = .ok (.aload_n 0, 1) := by decide +kernel
theorem dX12_operand_215 : decode cX12_operand 215 = .ok (.getfield 155, 3) := by decide +kernel
theorem dX12_operand_218 : decode cX12_operand 218 = .ok (.istore 4, 2) := by decide +kernel
theorem dX12_operand_220 : decode cX12_operand 220 = .ok (.aload_n 0, 1) := by decide +kernel
theorem dX12_operand_221 : decode cX12_operand 221 = .ok (.invokevirtual 174, 3) := by decide +kernel
theorem dX12_operand_224 : decode cX12_operand 224 = .ok (.aload_n 0, 1) := by decide +kernel
theorem dX12_operand_225 : decode cX12_operand 225 = .ok (.getfield 145, 3) := by decide +kernel
theorem dX12_operand_228 : decode cX12_operand 228 = .ok (.iconst 2, 1) := by decide +kernel
theorem dX12_operand_229 : decode cX12_operand 229 = .ok (.if_icmp .eq 9, 3) := by decide +kernel
theorem dX12_operand_232 : decode cX12_operand 232 = .ok (.aload_n 0, 1) := by decide +kernel
theorem dX12_operand_233 : decode cX12_operand 233 = .ok (.iconst 1, 1) := by decide +kernel
theorem dX12_operand_234 : decode cX12_operand 234 = .ok (.invokevirtual 171, 3) := by decide +kernel
theorem dX12_operand_237 : decode cX12_operand 237 = .ok (.ireturn, 1) := by decide +kernel
theorem dX12_operand_238 : decode cX12_operand 238 = .ok (.aload_n 0, 1) := by decide +kernel
theorem dX12_operand_239 : decode cX12_operand 239 = .ok (.iload_n 3, 1) := by decide +kernel
theorem dX12_operand_240 : decode cX12_operand 240 = .ok (.iload 4, 2) := by decide +kernel
theorem dX12_operand_242 : decode cX12_operand 242 = .ok (.aload_n 0, 1) := by decide +kernel
theorem dX12_operand_243 : decode cX12_operand 243 = .ok (.getfield 155, 3) := by decide +kernel
theorem dX12_operand_246 : decode cX12_operand 246 = .ok (.invokevirtual 424, 3) := by decide +kernel
theorem dX12_operand_249 : decode cX12_operand 249 = .ok (.aload_n 0, 1) := by decide +kernel
theorem dX12_operand_250 : decode cX12_operand 250 = .ok (.invokevirtual 174, 3) := by decide +kernel
theorem dX12_operand_253 : decode cX12_operand 253 = .ok (.iconst 1, 1) := by decide +kernel
theorem dX12_operand_254 : decode cX12_operand 254 = .ok (.ireturn, 1) := by decide +kernel
theorem dX12_partner_0 : decode cX12_partner 0 = .ok (.aload_n 0, 1) := by decide +kernel
theorem dX12_partner_1 : decode cX12_partner 1 = .ok (.iconst 0, 1) := by decide +kernel
theorem dX12_partner_2 : decode cX12_partner 2 = .ok (.putfield 1, 3) := by decide +kernel
theorem dX12_partner_5 : decode cX12_partner 5 = .ok (.iload_n 1, 1) := by decide +kernel
theorem dX12_partner_6 : decode cX12_partner 6 = .ok (.iconst 0, 1) := by decide +kernel
theorem dX12_partner_7 : decode cX12_partner 7 = .ok (.aload_n 0, 1) := by decide +kernel
theorem dX12_partner_8 : decode cX12_partner 8 = .ok (.getfield 59, 3) := by decide +kernel
