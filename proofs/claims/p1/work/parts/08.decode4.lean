theorem dX12_image_66 : decode cX12_image 66 = .ok (.iadd, 1) := by decide +kernel
theorem dX12_image_67 : decode cX12_image 67 = .ok (.aload_n 0, 1) := by decide +kernel
theorem dX12_image_68 : decode cX12_image 68 = .ok (.getfield 43, 3) := by decide +kernel
theorem dX12_image_71 : decode cX12_image 71 = .ok (.iload_n 2, 1) := by decide +kernel
theorem dX12_image_72 : decode cX12_image 72 = .ok (.laload, 1) := by decide +kernel
theorem dX12_image_73 : decode cX12_image 73 = .ok (.lastore, 1) := by decide +kernel
theorem dX12_image_74 : decode cX12_image 74 = .ok (.iinc 2 1, 3) := by decide +kernel
theorem dX12_image_77 : decode cX12_image 77 = .ok (.goto (-26), 3) := by decide +kernel
theorem dX12_image_80 : decode cX12_image 80 = .ok (.aload_n 0, 1) := by decide +kernel
theorem dX12_image_81 : decode cX12_image 81 = .ok (.getfield 78, 3) := by decide +kernel
theorem dX12_image_84 : decode cX12_image 84 = .ok (.iload_n 1, 1) := by decide +kernel
theorem dX12_image_85 : decode cX12_image 85 = .ok (.iconst 1, 1) := by decide +kernel
theorem dX12_image_86 : decode cX12_image 86 = .ok (.bastore, 1) := by decide +kernel
theorem dX12_image_87 : decode cX12_image 87 = .ok (.iconst 1, 1) := by decide +kernel
theorem dX12_image_88 : decode cX12_image 88 = .ok (.ireturn, 1) := by decide +kernel
theorem dX12_init_0 : decode cX12_init 0 = .ok (.aload_n 0, 1) := by decide +kernel
theorem dX12_init_1 : decode cX12_init 1 = .ok (.invokespecial 27, 3) := by decide +kernel
theorem dX12_init_4 : decode cX12_init 4 = .ok (.aload_n 0, 1) := by decide +kernel
theorem dX12_init_5 : decode cX12_init 5 = .ok (.sipush 940, 3) := by decide +kernel
theorem dX12_init_8 : decode cX12_init 8 = .ok (.newarray .byte, 2) := by decide +kernel
theorem dX12_init_10 : decode cX12_init 10 = .ok (.putfield 14, 3) := by decide +kernel
theorem dX12_init_13 : decode cX12_init 13 = .ok (.aload_n 0, 1) := by decide +kernel
theorem dX12_init_14 : decode cX12_init 14 = .ok (.sipush 2187, 3) := by decide +kernel
theorem dX12_init_17 : decode cX12_init 17 = .ok (.newarray .int, 2) := by decide +kernel
theorem dX12_init_19 : decode cX12_init 19 = .ok (.putfield 33, 3) := by decide +kernel
theorem dX12_init_22 : decode cX12_init 22 = .ok (.aload_n 0, 1) := by decide +kernel
theorem dX12_init_23 : decode cX12_init 23 = .ok (.sipush 146, 3) := by decide +kernel
theorem dX12_init_26 : decode cX12_init 26 = .ok (.newarray .int, 2) := by decide +kernel
theorem dX12_init_28 : decode cX12_init 28 = .ok (.putfield 37, 3) := by decide +kernel
theorem dX12_init_31 : decode cX12_init 31 = .ok (.aload_n 0, 1) := by decide +kernel
theorem dX12_init_32 : decode cX12_init 32 = .ok (.sipush 135, 3) := by decide +kernel
theorem dX12_init_35 : decode cX12_init 35 = .ok (.newarray .int, 2) := by decide +kernel
theorem dX12_init_37 : decode cX12_init 37 = .ok (.putfield 40, 3) := by decide +kernel
theorem dX12_init_40 : decode cX12_init 40 = .ok (.aload_n 0, 1) := by decide +kernel
theorem dX12_init_41 : decode cX12_init 41 = .ok (.bipush 36, 2) := by decide +kernel
theorem dX12_init_43 : decode cX12_init 43 = .ok (.newarray .long, 2) := by decide +kernel
theorem dX12_init_45 : decode cX12_init 45 = .ok (.putfield 43, 3) := by decide +kernel
theorem dX12_init_48 : decode cX12_init 48 = .ok (.aload_n 0, 1) := by decide +kernel
theorem dX12_init_49 : decode cX12_init 49 = .ok (.bipush 27, 2) := by decide +kernel
theorem dX12_init_51 : decode cX12_init 51 = .ok (.newarray .long, 2) := by decide +kernel
theorem dX12_init_53 : decode cX12_init 53 = .ok (.putfield 47, 3) := by decide +kernel
theorem dX12_init_56 : decode cX12_init 56 = .ok (.aload_n 0, 1) := by decide +kernel
theorem dX12_init_57 : decode cX12_init 57 = .ok (.sipush 7440, 3) := by decide +kernel
theorem dX12_init_60 : decode cX12_init 60 = .ok (.newarray .int, 2) := by decide +kernel
theorem dX12_init_62 : decode cX12_init 62 = .ok (.putfield 50, 3) := by decide +kernel
theorem dX12_init_65 : decode cX12_init 65 = .ok (.aload_n 0, 1) := by decide +kernel
theorem dX12_init_66 : decode cX12_init 66 = .ok (.sipush 1860, 3) := by decide +kernel
theorem dX12_init_69 : decode cX12_init 69 = .ok (.newarray .int, 2) := by decide +kernel
theorem dX12_init_71 : decode cX12_init 71 = .ok (.putfield 53, 3) := by decide +kernel
theorem dX12_init_74 : decode cX12_init 74 = .ok (.aload_n 0, 1) := by decide +kernel
theorem dX12_init_75 : decode cX12_init 75 = .ok (.bipush 9, 2) := by decide +kernel
theorem dX12_init_77 : decode cX12_init 77 = .ok (.newarray .int, 2) := by decide +kernel
theorem dX12_init_79 : decode cX12_init 79 = .ok (.putfield 56, 3) := by decide +kernel
theorem dX12_init_82 : decode cX12_init 82 = .ok (.aload_n 0, 1) := by decide +kernel
theorem dX12_init_83 : decode cX12_init 83 = .ok (.iconst (-1), 1) := by decide +kernel
theorem dX12_init_84 : decode cX12_init 84 = .ok (.putfield 59, 3) := by decide +kernel
theorem dX12_init_87 : decode cX12_init 87 = .ok (.aload_n 0, 1) := by decide +kernel
theorem dX12_init_88 : decode cX12_init 88 = .ok (.iconst 4, 1) := by decide +kernel
theorem dX12_init_89 : decode cX12_init 89 = .ok (.newarray .int, 2) := by decide +kernel
theorem dX12_init_91 : decode cX12_init 91 = .ok (.putfield 62, 3) := by decide +kernel
theorem dX12_init_94 : decode cX12_init 94 = .ok (.aload_n 0, 1) := by decide +kernel
theorem dX12_init_95 : decode cX12_init 95 = .ok (.bipush 45, 2) := by decide +kernel
theorem dX12_init_97 : decode cX12_init 97 = .ok (.newarray .int, 2) := by decide +kernel
theorem dX12_init_99 : decode cX12_init 99 = .ok (.putfield 65, 3) := by decide +kernel
theorem dX12_init_102 : decode cX12_init 102 = .ok (.aload_n 0, 1) := by decide +kernel
theorem dX12_init_103 : decode cX12_init 103 = .ok (.bipush 45, 2) := by decide +kernel
theorem dX12_init_105 : decode cX12_init 105 = .ok (.newarray .boolean, 2) := by decide +kernel
theorem dX12_init_107 : decode cX12_init 107 = .ok (.putfield 68, 3) := by decide +kernel
theorem dX12_init_110 : decode cX12_init 110 = .ok (.aload_n 0, 1) := by decide +kernel
theorem dX12_init_111 : decode cX12_init 111 = .ok (.sipush 4374, 3) := by decide +kernel
theorem dX12_init_114 : decode cX12_init 114 = .ok (.newarray .int, 2) := by decide +kernel
theorem dX12_init_116 : decode cX12_init 116 = .ok (.putfield 72, 3) := by decide +kernel
theorem dX12_init_119 : decode cX12_init 119 = .ok (.aload_n 0, 1) := by decide +kernel
theorem dX12_init_120 : decode cX12_init 120 = .ok (.bipush 36, 2) := by decide +kernel
theorem dX12_init_122 : decode cX12_init 122 = .ok (.newarray .long, 2) := by decide +kernel
theorem dX12_init_124 : decode cX12_init 124 = .ok (.putfield 75, 3) := by decide +kernel
theorem dX12_init_127 : decode cX12_init 127 = .ok (.aload_n 0, 1) := by decide +kernel
theorem dX12_init_128 : decode cX12_init 128 = .ok (.iconst 2, 1) := by decide +kernel
theorem dX12_init_129 : decode cX12_init 129 = .ok (.newarray .boolean, 2) := by decide +kernel
theorem dX12_init_131 : decode cX12_init 131 = .ok (.putfield 78, 3) := by decide +kernel
theorem dX12_init_134 : decode cX12_init 134 = .ok (.aload_n 0, 1) := by decide +kernel
theorem dX12_init_135 : decode cX12_init 135 = .ok (.getfield 47, 3) := by decide +kernel
theorem dX12_init_138 : decode cX12_init 138 = .ok (.iconst 0, 1) := by decide +kernel
theorem dX12_init_139 : decode cX12_init 139 = .ok (.ldc2_w 81, 3) := by decide +kernel
theorem dX12_init_142 : decode cX12_init 142 = .ok (.lastore, 1) := by decide +kernel
theorem dX12_init_143 : decode cX12_init 143 = .ok (.aload_n 0, 1) := by decide +kernel
theorem dX12_init_144 : decode cX12_init 144 = .ok (.getfield 47, 3) := by decide +kernel
theorem dX12_init_147 : decode cX12_init 147 = .ok (.iconst 1, 1) := by decide +kernel
theorem dX12_init_148 : decode cX12_init 148 = .ok (.ldc2_w 83, 3) := by decide +kernel
theorem dX12_init_151 : decode cX12_init 151 = .ok (.lastore, 1) := by decide +kernel
theorem dX12_init_152 : decode cX12_init 152 = .ok (.aload_n 0, 1) := by decide +kernel
theorem dX12_init_153 : decode cX12_init 153 = .ok (.getfield 47, 3) := by decide +kernel
theorem dX12_init_156 : decode cX12_init 156 = .ok (.iconst 2, 1) := by decide +kernel
theorem dX12_init_157 : decode cX12_init 157 = .ok (.ldc2_w 85, 3) := by decide +kernel
theorem dX12_init_160 : decode cX12_init 160 = .ok (.lastore, 1) := by decide +kernel
theorem dX12_init_161 : decode cX12_init 161 = .ok (.aload_n 0, 1) := by decide +kernel
theorem dX12_init_162 : decode cX12_init 162 = .ok (.getfield 47, 3) := by decide +kernel
theorem dX12_init_165 : decode cX12_init 165 = .ok (.iconst 3, 1) := by decide +kernel
theorem dX12_init_166 : decode cX12_init 166 = .ok (.ldc2_w 87, 3) := by decide +kernel
theorem dX12_init_169 : decode cX12_init 169 = .ok (.lastore, 1) := by decide +kernel
theorem dX12_init_170 : decode cX12_init 170 = .ok (.aload_n 0, 1) := by decide +kernel
theorem dX12_init_171 : decode cX12_init 171 = .ok (.getfield 47, 3) := by decide +kernel
theorem dX12_init_174 : decode cX12_init 174 = .ok (.iconst 4, 1) := by decide +kernel
theorem dX12_init_175 : decode cX12_init 175 = .ok (.ldc2_w 89, 3) := by decide +kernel
theorem dX12_init_178 : decode cX12_init 178 = .ok (.lastore, 1) := by decide +kernel
theorem dX12_init_179 : decode cX12_init 179 = .ok (.aload_n 0, 1) := by decide +kernel
theorem dX12_init_180 : decode cX12_init 180 = .ok (.getfield 47, 3) := by decide +kernel
theorem dX12_init_183 : decode cX12_init 183 = .ok (.iconst 5, 1) := by decide +kernel
theorem dX12_init_184 : decode cX12_init 184 = .ok (.ldc2_w 91, 3) := by decide +kernel
theorem dX12_init_187 : decode cX12_init 187 = .ok (.lastore, 1) := by decide +kernel
theorem dX12_init_188 : decode cX12_init 188 = .ok (.aload_n 0, 1) := by decide +kernel
theorem dX12_init_189 : decode cX12_init 189 = .ok (.getfield 47, 3) := by decide +kernel
theorem dX12_init_192 : decode cX12_init 192 = .ok (.bipush 6, 2) := by decide +kernel
theorem dX12_init_194 : decode cX12_init 194 = .ok (.ldc2_w 93, 3) := by decide +kernel
theorem dX12_init_197 : decode cX12_init 197 = .ok (.lastore, 1) := by decide +kernel
theorem dX12_init_198 : decode cX12_init 198 = .ok (.aload_n 0, 1) := by decide +kernel
theorem dX12_init_199 : decode cX12_init 199 = .ok (.getfield 47, 3) := by decide +kernel
theorem dX12_init_202 : decode cX12_init 202 = .ok (.bipush 7, 2) := by decide +kernel
theorem dX12_init_204 : decode cX12_init 204 = .ok (.ldc2_w 95, 3) := by decide +kernel
theorem dX12_init_207 : decode cX12_init 207 = .ok (.lastore, 1) := by decide +kernel
theorem dX12_init_208 : decode cX12_init 208 = .ok (.aload_n 0, 1) := by decide +kernel
theorem dX12_init_209 : decode cX12_init 209 = .ok (.getfield 47, 3) := by decide +kernel
theorem dX12_init_212 : decode cX12_init 212 = .ok (.bipush 8, 2) := by decide +kernel
theorem dX12_init_214 : decode cX12_init 214 = .ok (.ldc2_w 97, 3) := by decide +kernel
theorem dX12_init_217 : decode cX12_init 217 = .ok (.lastore, 1) := by decide +kernel
theorem dX12_init_218 : decode cX12_init 218 = .ok (.aload_n 0, 1) := by decide +kernel
theorem dX12_init_219 : decode cX12_init 219 = .ok (.getfield 47, 3) := by decide +kernel
theorem dX12_init_222 : decode cX12_init 222 = .ok (.bipush 9, 2) := by decide +kernel
theorem dX12_init_224 : decode cX12_init 224 = .ok (.ldc2_w 99, 3) := by decide +kernel
theorem dX12_init_227 : decode cX12_init 227 = .ok (.lastore, 1) := by decide +kernel
theorem dX12_init_228 : decode cX12_init 228 = .ok (.aload_n 0, 1) := by decide +kernel
theorem dX12_init_229 : decode cX12_init 229 = .ok (.getfield 47, 3) := by decide +kernel
theorem dX12_init_232 : decode cX12_init 232 = .ok (.bipush 10, 2) := by decide +kernel
theorem dX12_init_234 : decode cX12_init 234 = .ok (.ldc2_w 101, 3) := by decide +kernel
theorem dX12_init_237 : decode cX12_init 237 = .ok (.lastore, 1) := by decide +kernel
theorem dX12_init_238 : decode cX12_init 238 = .ok (.aload_n 0, 1) := by decide +kernel
theorem dX12_init_239 : decode cX12_init 239 = .ok (.getfield 47, 3) := by decide +kernel
theorem dX12_init_242 : decode cX12_init 242 = .ok (.bipush 11, 2) := by decide +kernel
theorem dX12_init_244 : decode cX12_init 244 = .ok (.ldc2_w 103, 3) := by decide +kernel
theorem dX12_init_247 : decode cX12_init 247 = .ok (.lastore, 1) := by decide +kernel
theorem dX12_init_248 : decode cX12_init 248 = .ok (.aload_n 0, 1) := by decide +kernel
theorem dX12_init_249 : decode cX12_init 249 = .ok (.getfield 47, 3) := by decide +kernel
theorem dX12_init_252 : decode cX12_init 252 = .ok (.bipush 12, 2) := by decide +kernel
theorem dX12_init_254 : decode cX12_init 254 = .ok (.ldc2_w 105, 3) := by decide +kernel
theorem dX12_init_257 : decode cX12_init 257 = .ok (.lastore, 1) := by decide +kernel
theorem dX12_init_258 : decode cX12_init 258 = .ok (.aload_n 0, 1) := by decide +kernel
theorem dX12_init_259 : decode cX12_init 259 = .ok (.getfield 47, 3) := by decide +kernel
theorem dX12_init_262 : decode cX12_init 262 = .ok (.bipush 13, 2) := by decide +kernel
theorem dX12_init_264 : decode cX12_init 264 = .ok (.ldc2_w 107, 3) := by decide +kernel
theorem dX12_init_267 : decode cX12_init 267 = .ok (.lastore, 1) := by decide +kernel
theorem dX12_init_268 : decode cX12_init 268 = .ok (.aload_n 0, 1) := by decide +kernel
theorem dX12_init_269 : decode cX12_init 269 = .ok (.getfield 47, 3) := by decide +kernel
theorem dX12_init_272 : decode cX12_init 272 = .ok (.bipush 14, 2) := by decide +kernel
theorem dX12_init_274 : decode cX12_init 274 = .ok (.ldc2_w 109, 3) := by decide +kernel
theorem dX12_init_277 : decode cX12_init 277 = .ok (.lastore, 1) := by decide +kernel
theorem dX12_init_278 : decode cX12_init 278 = .ok (.aload_n 0, 1) := by decide +kernel
theorem dX12_init_279 : decode cX12_init 279 = .ok (.getfield 47, 3) := by decide +kernel
theorem dX12_init_282 : decode cX12_init 282 = .ok (.bipush 15, 2) := by decide +kernel
theorem dX12_init_284 : decode cX12_init 284 = .ok (.ldc2_w 111, 3) := by decide +kernel
theorem dX12_init_287 : decode cX12_init 287 = .ok (.lastore, 1) := by decide +kernel
theorem dX12_init_288 : decode cX12_init 288 = .ok (.aload_n 0, 1) := by decide +kernel
theorem dX12_init_289 : decode cX12_init 289 = .ok (.getfield 47, 3) := by decide +kernel
theorem dX12_init_292 : decode cX12_init 292 = .ok (.bipush 16, 2) := by decide +kernel
theorem dX12_init_294 : decode cX12_init 294 = .ok (.ldc2_w 113, 3) := by decide +kernel
theorem dX12_init_297 : decode cX12_init 297 = .ok (.lastore, 1) := by decide +kernel
theorem dX12_init_298 : decode cX12_init 298 = .ok (.aload_n 0, 1) := by decide +kernel
theorem dX12_init_299 : decode cX12_init 299 = .ok (.getfield 47, 3) := by decide +kernel
theorem dX12_init_302 : decode cX12_init 302 = .ok (.bipush 17, 2) := by decide +kernel
theorem dX12_init_304 : decode cX12_init 304 = .ok (.ldc2_w 115, 3) := by decide +kernel
theorem dX12_init_307 : decode cX12_init 307 = .ok (.lastore, 1) := by decide +kernel
theorem dX12_init_308 : decode cX12_init 308 = .ok (.aload_n 0, 1) := by decide +kernel
theorem dX12_init_309 : decode cX12_init 309 = .ok (.getfield 47, 3) := by decide +kernel
theorem dX12_init_312 : decode cX12_init 312 = .ok (.bipush 18, 2) := by decide +kernel
theorem dX12_init_314 : decode cX12_init 314 = .ok (.ldc2_w 117, 3) := by decide +kernel
theorem dX12_init_317 : decode cX12_init 317 = .ok (.lastore, 1) := by decide +kernel
theorem dX12_init_318 : decode cX12_init 318 = .ok (.aload_n 0, 1) := by decide +kernel
theorem dX12_init_319 : decode cX12_init 319 = .ok (.getfield 47, 3) := by decide +kernel
theorem dX12_init_322 : decode cX12_init 322 = .ok (.bipush 19, 2) := by decide +kernel
theorem dX12_init_324 : decode cX12_init 324 = .ok (.ldc2_w 119, 3) := by decide +kernel
theorem dX12_init_327 : decode cX12_init 327 = .ok (.lastore, 1) := by decide +kernel
theorem dX12_init_328 : decode cX12_init 328 = .ok (.aload_n 0, 1) := by decide +kernel
theorem dX12_init_329 : decode cX12_init 329 = .ok (.getfield 47, 3) := by decide +kernel
theorem dX12_init_332 : decode cX12_init 332 = .ok (.bipush 20, 2) := by decide +kernel
theorem dX12_init_334 : decode cX12_init 334 = .ok (.ldc2_w 121, 3) := by decide +kernel
theorem dX12_init_337 : decode cX12_init 337 = .ok (.lastore, 1) := by decide +kernel
theorem dX12_init_338 : decode cX12_init 338 = .ok (.aload_n 0, 1) := by decide +kernel
theorem dX12_init_339 : decode cX12_init 339 = .ok (.getfield 47, 3) := by decide +kernel
theorem dX12_init_342 : decode cX12_init 342 = .ok (.bipush 21, 2) := by decide +kernel
theorem dX12_init_344 : decode cX12_init 344 = .ok (.ldc2_w 123, 3) := by decide +kernel
theorem dX12_init_347 : decode cX12_init 347 = .ok (.lastore, 1) := by decide +kernel
theorem dX12_init_348 : decode cX12_init 348 = .ok (.aload_n 0, 1) := by decide +kernel
theorem dX12_init_349 : decode cX12_init 349 = .ok (.getfield 47, 3) := by decide +kernel
theorem dX12_init_352 : decode cX12_init 352 = .ok (.bipush 22, 2) := by decide +kernel
theorem dX12_init_354 : decode cX12_init 354 = .ok (.ldc2_w 125, 3) := by decide +kernel
theorem dX12_init_357 : decode cX12_init 357 = .ok (.lastore, 1) := by decide +kernel
theorem dX12_init_358 : decode cX12_init 358 = .ok (.aload_n 0, 1) := by decide +kernel
theorem dX12_init_359 : decode cX12_init 359 = .ok (.getfield 47, 3) := by decide +kernel
theorem dX12_init_362 : decode cX12_init 362 = .ok (.bipush 23, 2) := by decide +kernel
theorem dX12_init_364 : decode cX12_init 364 = .ok (.ldc2_w 127, 3) := by decide +kernel
theorem dX12_init_367 : decode cX12_init 367 = .ok (.lastore, 1) := by decide +kernel
theorem dX12_init_368 : decode cX12_init 368 = .ok (.aload_n 0, 1) := by decide +kernel
theorem dX12_init_369 : decode cX12_init 369 = .ok (.getfield 47, 3) := by decide +kernel
theorem dX12_init_372 : decode cX12_init 372 = .ok (.bipush 24, 2) := by decide +kernel
theorem dX12_init_374 : decode cX12_init 374 = .ok (.ldc2_w 129, 3) := by decide +kernel
theorem dX12_init_377 : decode cX12_init 377 = .ok (.lastore, 1) := by decide +kernel
theorem dX12_init_378 : decode cX12_init 378 = .ok (.aload_n 0, 1) := by decide +kernel
theorem dX12_init_379 : decode cX12_init 379 = .ok (.getfield 47, 3) := by decide +kernel
theorem dX12_init_382 : decode cX12_init 382 = .ok (.bipush 25, 2) := by decide +kernel
theorem dX12_init_384 : decode cX12_init 384 = .ok (.ldc2_w 131, 3) := by decide +kernel
theorem dX12_init_387 : decode cX12_init 387 = .ok (.lastore, 1) := by decide +kernel
theorem dX12_init_388 : decode cX12_init 388 = .ok (.aload_n 0, 1) := by decide +kernel
theorem dX12_init_389 : decode cX12_init 389 = .ok (.getfield 47, 3) := by decide +kernel
theorem dX12_init_392 : decode cX12_init 392 = .ok (.bipush 26, 2) := by decide +kernel
theorem dX12_init_394 : decode cX12_init 394 = .ok (.ldc2_w 133, 3) := by decide +kernel
theorem dX12_init_397 : decode cX12_init 397 = .ok (.lastore, 1) := by decide +kernel
theorem dX12_init_398 : decode cX12_init 398 = .ok (.return_, 1) := by decide +kernel
theorem dX12_isIn_0 : decode cX12_isIn 0 = .ok (.iload_n 0, 1) := by decide +kernel
theorem dX12_isIn_1 : decode cX12_isIn 1 = .ok (.iload_n 1, 1) := by decide +kernel
theorem dX12_isIn_2 : decode cX12_isIn 2 = .ok (.if_icmp .lt 12, 3) := by decide +kernel
theorem dX12_isIn_5 : decode cX12_isIn 5 = .ok (.iload_n 0, 1) := by decide +kernel
theorem dX12_isIn_6 : decode cX12_isIn 6 = .ok (.iload_n 2, 1) := by decide +kernel
theorem dX12_isIn_7 : decode cX12_isIn 7 = .ok (.if_icmp .gt 7, 3) := by decide +kernel
theorem dX12_isIn_10 : decode cX12_isIn 10 = .ok (.iconst 1, 1) := by decide +kernel
theorem dX12_isIn_11 : decode cX12_isIn 11 = .ok (.goto 4, 3) := by decide +kernel
theorem dX12_isIn_14 : decode cX12_isIn 14 = .ok (.iconst 0, 1) := by decide +kernel
theorem dX12_isIn_15 : decode cX12_isIn 15 = .ok (.ireturn, 1) := by decide +kernel
theorem dX12_isNameOf_0 : decode cX12_isNameOf 0 = .ok (.iload_n 1, 1) := by decide +kernel
theorem dX12_isNameOf_1 : decode cX12_isNameOf 1 = .ok (.iconst 0, 1) := by decide +kernel
theorem dX12_isNameOf_2 : decode cX12_isNameOf 2 = .ok (.aload_n 0, 1) := by decide +kernel
theorem dX12_isNameOf_3 : decode cX12_isNameOf 3 = .ok (.getfield 33, 3) := by decide +kernel
theorem dX12_isNameOf_6 : decode cX12_isNameOf 6 = .ok (.iconst 0, 1) := by decide +kernel
theorem dX12_isNameOf_7 : decode cX12_isNameOf 7 = .ok (.iaload, 1) := by decide +kernel
theorem dX12_isNameOf_8 : decode cX12_isNameOf 8 = .ok (.iconst 1, 1) := by decide +kernel
theorem dX12_isNameOf_9 : decode cX12_isNameOf 9 = .ok (.isub, 1) := by decide +kernel
theorem dX12_isNameOf_10 : decode cX12_isNameOf 10 = .ok (.invokestatic 177, 3) := by decide +kernel
theorem dX12_isNameOf_13 : decode cX12_isNameOf 13 = .ok (.ireturn, 1) := by decide +kernel
theorem dX12_isSign_0 : decode cX12_isSign 0 = .ok (.aload_n 0, 1) := by decide +kernel
theorem dX12_isSign_1 : decode cX12_isSign 1 = .ok (.getfield 145, 3) := by decide +kernel
theorem dX12_isSign_4 : decode cX12_isSign 4 = .ok (.iconst 3, 1) := by decide +kernel
theorem dX12_isSign_5 : decode cX12_isSign 5 = .ok (.if_icmp .ne 15, 3) := by decide +kernel
theorem dX12_isSign_20 : decode cX12_isSign 20 = .ok (.iconst 0, 1) := by decide +kernel
theorem dX12_isSign_21 : decode cX12_isSign 21 = .ok (.ireturn, 1) := by decide +kernel
theorem dX12_isSoul_0 : decode cX12_isSoul 0 = .ok (.iload_n 1, 1) := by decide +kernel
theorem dX12_isSoul_1 : decode cX12_isSoul 1 = .ok (.iconst 0, 1) := by decide +kernel
theorem dX12_isSoul_2 : decode cX12_isSoul 2 = .ok (.aload_n 0, 1) := by decide +kernel
theorem dX12_isSoul_3 : decode cX12_isSoul 3 = .ok (.getfield 33, 3) := by decide +kernel
theorem dX12_isSoul_6 : decode cX12_isSoul 6 = .ok (.iconst 1, 1) := by decide +kernel
theorem dX12_isSoul_7 : decode cX12_isSoul 7 = .ok (.iaload, 1) := by decide +kernel
theorem dX12_isSoul_8 : decode cX12_isSoul 8 = .ok (.iconst 1, 1) := by decide +kernel
theorem dX12_isSoul_9 : decode cX12_isSoul 9 = .ok (.isub, 1) := by decide +kernel
theorem dX12_isSoul_10 : decode cX12_isSoul 10 = .ok (.invokestatic 177, 3) := by decide +kernel
theorem dX12_isSoul_13 : decode cX12_isSoul 13 = .ok (.ireturn, 1) := by decide +kernel
theorem dX12_isWord_0 : decode cX12_isWord 0 = .ok (.aload_n 0, 1) := by decide +kernel
theorem dX12_isWord_1 : decode cX12_isWord 1 = .ok (.getfield 145, 3) := by decide +kernel
theorem dX12_isWord_4 : decode cX12_isWord 4 = .ok (.iconst 1, 1) := by decide +kernel
theorem dX12_isWord_5 : decode cX12_isWord 5 = .ok (.if_icmp .ne 16, 3) := by decide +kernel
theorem dX12_isWord_21 : decode cX12_isWord 21 = .ok (.iconst 0, 1) := by decide +kernel
theorem dX12_isWord_22 : decode cX12_isWord 22 = .ok (.ireturn, 1) := by decide +kernel
theorem dX12_keep_0 : decode cX12_keep 0 = .ok (.aload_n 0, 1) := by decide +kernel
theorem dX12_keep_1 : decode cX12_keep 1 = .ok (.getfield 233, 3) := by decide +kernel
theorem dX12_keep_4 : decode cX12_keep 4 = .ok (.iconst 4, 1) := by decide +kernel
theorem dX12_keep_5 : decode cX12_keep 5 = .ok (.if_icmp .ne 39, 3) := by decide +kernel
theorem dX12_keep_44 : decode cX12_keep 44 = .ok (.iconst 0, 1) := by decide +kernel
theorem dX12_keep_45 : decode cX12_keep 45 = .ok (.istore_n 1, 1) := by decide +kernel
theorem dX12_keep_46 : decode cX12_keep 46 = .ok (.iload_n 1, 1) := by decide +kernel
theorem dX12_keep_47 : decode cX12_keep 47 = .ok (.sipush 1860, 3) := by decide +kernel
theorem dX12_keep_50 : decode cX12_keep 50 = .ok (.if_icmp .ge 34, 3) := by decide +kernel
theorem dX12_keep_53 : decode cX12_keep 53 = .ok (.aload_n 0, 1) := by decide +kernel
theorem dX12_keep_54 : decode cX12_keep 54 = .ok (.getfield 50, 3) := by decide +kernel
theorem dX12_keep_57 : decode cX12_keep 57 = .ok (.sipush 1860, 3) := by decide +kernel
theorem dX12_keep_60 : decode cX12_keep 60 = .ok (.aload_n 0, 1) := by decide +kernel
theorem dX12_keep_61 : decode cX12_keep 61 = .ok (.getfield 233, 3) := by decide +kernel
theorem dX12_keep_64 : decode cX12_keep 64 = .ok (.imul, 1) := by decide +kernel
theorem dX12_keep_65 : decode cX12_keep 65 = .ok (.iload_n 1, 1) := by decide +kernel
theorem dX12_keep_66 : decode cX12_keep 66 = .ok (.iadd, 1) := by decide +kernel
theorem dX12_keep_67 : decode cX12_keep 67 = .ok (.aload_n 0, 1) := by decide +kernel
theorem dX12_keep_68 : decode cX12_keep 68 = .ok (.getfield 33, 3) := by decide +kernel
theorem dX12_keep_71 : decode cX12_keep 71 = .ok (.sipush 146, 3) := by decide +kernel
theorem dX12_keep_74 : decode cX12_keep 74 = .ok (.iload_n 1, 1) := by decide +kernel
theorem dX12_keep_75 : decode cX12_keep 75 = .ok (.iadd, 1) := by decide +kernel
theorem dX12_keep_76 : decode cX12_keep 76 = .ok (.iaload, 1) := by decide +kernel
theorem dX12_keep_77 : decode cX12_keep 77 = .ok (.iastore, 1) := by decide +kernel
theorem dX12_keep_78 : decode cX12_keep 78 = .ok (.iinc 1 1, 3) := by decide +kernel
theorem dX12_keep_81 : decode cX12_keep 81 = .ok (.goto (-35), 3) := by decide +kernel
theorem dX12_keep_84 : decode cX12_keep 84 = .ok (.aload_n 0, 1) := by decide +kernel
theorem dX12_keep_85 : decode cX12_keep 85 = .ok (.dup, 1) := by decide +kernel
theorem dX12_keep_86 : decode cX12_keep 86 = .ok (.getfield 233, 3) := by decide +kernel
theorem dX12_keep_89 : decode cX12_keep 89 = .ok (.iconst 1, 1) := by decide +kernel
theorem dX12_keep_90 : decode cX12_keep 90 = .ok (.iadd, 1) := by decide +kernel
theorem dX12_keep_91 : decode cX12_keep 91 = .ok (.putfield 233, 3) := by decide +kernel
theorem dX12_keep_94 : decode cX12_keep 94 = .ok (.return_, 1) := by decide +kernel
theorem dX12_leafOf_0 : decode cX12_leafOf 0 = .ok (.aload_n 0, 1) := by decide +kernel
theorem dX12_leafOf_1 : decode cX12_leafOf 1 = .ok (.ldc2_w 119, 3) := by decide +kernel
theorem dX12_leafOf_4 : decode cX12_leafOf 4 = .ok (.invokevirtual 196, 3) := by decide +kernel
theorem dX12_leafOf_7 : decode cX12_leafOf 7 = .ok (.ifCond .eq 7, 3) := by decide +kernel
theorem dX12_leafOf_14 : decode cX12_leafOf 14 = .ok (.aload_n 0, 1) := by decide +kernel
theorem dX12_leafOf_15 : decode cX12_leafOf 15 = .ok (.ldc2_w 121, 3) := by decide +kernel
theorem dX12_leafOf_18 : decode cX12_leafOf 18 = .ok (.invokevirtual 196, 3) := by decide +kernel
theorem dX12_leafOf_21 : decode cX12_leafOf 21 = .ok (.ifCond .eq 7, 3) := by decide +kernel
theorem dX12_leafOf_28 : decode cX12_leafOf 28 = .ok (.aload_n 0, 1) := by decide +kernel
theorem dX12_leafOf_29 : decode cX12_leafOf 29 = .ok (.ldc2_w 123, 3) := by decide +kernel
theorem dX12_leafOf_32 : decode cX12_leafOf 32 = .ok (.invokevirtual 196, 3) := by decide +kernel
theorem dX12_leafOf_35 : decode cX12_leafOf 35 = .ok (.ifCond .eq 7, 3) := by decide +kernel
theorem dX12_leafOf_42 : decode cX12_leafOf 42 = .ok (.aload_n 0, 1) := by decide +kernel
theorem dX12_leafOf_43 : decode cX12_leafOf 43 = .ok (.ldc2_w 125, 3) := by decide +kernel
theorem dX12_leafOf_46 : decode cX12_leafOf 46 = .ok (.invokevirtual 196, 3) := by decide +kernel
theorem dX12_leafOf_49 : decode cX12_leafOf 49 = .ok (.ifCond .eq 7, 3) := by decide +kernel
theorem dX12_leafOf_56 : decode cX12_leafOf 56 = .ok (.aload_n 0, 1) := by decide +kernel
theorem dX12_leafOf_57 : decode cX12_leafOf 57 = .ok (.ldc2_w 89, 3) := by decide +kernel
theorem dX12_leafOf_60 : decode cX12_leafOf 60 = .ok (.invokevirtual 196, 3) := by decide +kernel
theorem dX12_leafOf_63 : decode cX12_leafOf 63 = .ok (.ifCond .eq 7, 3) := by decide +kernel
theorem dX12_leafOf_70 : decode cX12_leafOf 70 = .ok (.aload_n 0, 1) := by decide +kernel
theorem dX12_leafOf_71 : decode cX12_leafOf 71 = .ok (.ldc2_w 127, 3) := by decide +kernel
theorem dX12_leafOf_74 : decode cX12_leafOf 74 = .ok (.invokevirtual 196, 3) := by decide +kernel
theorem dX12_leafOf_77 : decode cX12_leafOf 77 = .ok (.ifCond .eq 7, 3) := by decide +kernel
theorem dX12_leafOf_84 : decode cX12_leafOf 84 = .ok (.aload_n 0, 1) := by decide +kernel
theorem dX12_leafOf_85 : decode cX12_leafOf 85 = .ok (.ldc2_w 129, 3) := by decide +kernel
theorem dX12_leafOf_88 : decode cX12_leafOf 88 = .ok (.invokevirtual 196, 3) := by decide +kernel
theorem dX12_leafOf_91 : decode cX12_leafOf 91 = .ok (.ifCond .eq 8, 3) := by decide +kernel
theorem dX12_leafOf_99 : decode cX12_leafOf 99 = .ok (.aload_n 0, 1) := by decide +kernel
theorem dX12_leafOf_100 : decode cX12_leafOf 100 = .ok (.ldc2_w 131, 3) := by decide +kernel
theorem dX12_leafOf_103 : decode cX12_leafOf 103 = .ok (.invokevirtual 196, 3) := by decide +kernel
theorem dX12_leafOf_106 : decode cX12_leafOf 106 = .ok (.ifCond .eq 8, 3) := by decide +kernel
theorem dX12_leafOf_114 : decode cX12_leafOf 114 = .ok (.aload_n 0, 1) := by decide +kernel
theorem dX12_leafOf_115 : decode cX12_leafOf 115 = .ok (.ldc2_w 133, 3) := by decide +kernel
theorem dX12_leafOf_118 : decode cX12_leafOf 118 = .ok (.invokevirtual 196, 3) := by decide +kernel
theorem dX12_leafOf_121 : decode cX12_leafOf 121 = .ok (.ifCond .eq 8, 3) := by decide +kernel
theorem dX12_leafOf_129 : decode cX12_leafOf 129 = .ok (.iconst (-1), 1) := by decide +kernel
theorem dX12_leafOf_130 : decode cX12_leafOf 130 = .ok (.ireturn, 1) := by decide +kernel
theorem dX12_least_0 : decode cX12_least 0 = .ok (.aload_n 0, 1) := by decide +kernel
theorem dX12_least_1 : decode cX12_least 1 = .ok (.iconst 0, 1) := by decide +kernel
theorem dX12_least_2 : decode cX12_least 2 = .ok (.putfield 1, 3) := by decide +kernel
theorem dX12_least_5 : decode cX12_least 5 = .ok (.aload_n 0, 1) := by decide +kernel
theorem dX12_least_6 : decode cX12_least 6 = .ok (.iload_n 1, 1) := by decide +kernel
theorem dX12_least_7 : decode cX12_least 7 = .ok (.invokevirtual 236, 3) := by decide +kernel
theorem dX12_least_10 : decode cX12_least 10 = .ok (.ifCond .eq 11, 3) := by decide +kernel
theorem dX12_least_21 : decode cX12_least 21 = .ok (.iconst (-1), 1) := by decide +kernel
theorem dX12_least_22 : decode cX12_least 22 = .ok (.ireturn, 1) := by decide +kernel
theorem dX12_ledger_0 : decode cX12_ledger 0 = .ok (.aload_n 0, 1) := by decide +kernel
theorem dX12_ledger_1 : decode cX12_ledger 1 = .ok (.iconst 0, 1) := by decide +kernel
theorem dX12_ledger_2 : decode cX12_ledger 2 = .ok (.putfield 1, 3) := by decide +kernel
theorem dX12_ledger_5 : decode cX12_ledger 5 = .ok (.aload_n 0, 1) := by decide +kernel
theorem dX12_ledger_6 : decode cX12_ledger 6 = .ok (.sipush 940, 3) := by decide +kernel
theorem dX12_ledger_9 : decode cX12_ledger 9 = .ok (.invokevirtual 218, 3) := by decide +kernel
theorem dX12_ledger_12 : decode cX12_ledger 12 = .ok (.aload_n 0, 1) := by decide +kernel
theorem dX12_ledger_13 : decode cX12_ledger 13 = .ok (.getfield 18, 3) := by decide +kernel
theorem dX12_ledger_16 : decode cX12_ledger 16 = .ok (.iconst 1, 1) := by decide +kernel
theorem dX12_ledger_17 : decode cX12_ledger 17 = .ok (.aload_n 0, 1) := by decide +kernel
theorem dX12_ledger_18 : decode cX12_ledger 18 = .ok (.getfield 33, 3) := by decide +kernel
theorem dX12_ledger_21 : decode cX12_ledger 21 = .ok (.sipush 146, 3) := by decide +kernel
theorem dX12_ledger_24 : decode cX12_ledger 24 = .ok (.iaload, 1) := by decide +kernel
theorem dX12_ledger_25 : decode cX12_ledger 25 = .ok (.invokestatic 177, 3) := by decide +kernel
theorem dX12_ledger_28 : decode cX12_ledger 28 = .ok (.ifCond .ne 5, 3) := by decide +kernel
theorem dX12_ledger_31 : decode cX12_ledger 31 = .ok (.iconst (-1), 1) := by decide +kernel
theorem dX12_ledger_32 : decode cX12_ledger 32 = .ok (.ireturn, 1) := by decide +kernel
theorem dX12_lot_0 : decode cX12_lot 0 = .ok (.aload_n 0, 1) := by decide +kernel
theorem dX12_lot_1 : decode cX12_lot 1 = .ok (.iconst 0, 1) := by decide +kernel
theorem dX12_lot_2 : decode cX12_lot 2 = .ok (.putfield 1, 3) := by decide +kernel
theorem dX12_lot_5 : decode cX12_lot 5 = .ok (.aload_n 0, 1) := by decide +kernel
theorem dX12_lot_6 : decode cX12_lot 6 = .ok (.iload_n 1, 1) := by decide +kernel
theorem dX12_lot_7 : decode cX12_lot 7 = .ok (.invokevirtual 246, 3) := by decide +kernel
theorem dX12_lot_10 : decode cX12_lot 10 = .ok (.ifCond .ne 5, 3) := by decide +kernel
theorem dX12_lot_13 : decode cX12_lot 13 = .ok (.iconst (-1), 1) := by decide +kernel
theorem dX12_lot_14 : decode cX12_lot 14 = .ok (.ireturn, 1) := by decide +kernel
theorem dX12_monday_0 : decode cX12_monday 0 = .ok (.iconst 0, 1) := by decide +kernel
theorem dX12_monday_1 : decode cX12_monday 1 = .ok (.istore_n 1, 1) := by decide +kernel
theorem dX12_monday_2 : decode cX12_monday 2 = .ok (.iload_n 1, 1) := by decide +kernel
theorem dX12_monday_3 : decode cX12_monday 3 = .ok (.bipush 9, 2) := by decide +kernel
theorem dX12_monday_5 : decode cX12_monday 5 = .ok (.if_icmp .ge 42, 3) := by decide +kernel
theorem dX12_monday_8 : decode cX12_monday 8 = .ok (.aload_n 0, 1) := by decide +kernel
theorem dX12_monday_9 : decode cX12_monday 9 = .ok (.getfield 33, 3) := by decide +kernel
theorem dX12_monday_12 : decode cX12_monday 12 = .ok (.sipush 206, 3) := by decide +kernel
theorem dX12_monday_15 : decode cX12_monday 15 = .ok (.sipush 200, 3) := by decide +kernel
theorem dX12_monday_18 : decode cX12_monday 18 = .ok (.iload_n 1, 1) := by decide +kernel
theorem dX12_monday_19 : decode cX12_monday 19 = .ok (.imul, 1) := by decide +kernel
theorem dX12_monday_20 : decode cX12_monday 20 = .ok (.iadd, 1) := by decide +kernel
theorem dX12_monday_21 : decode cX12_monday 21 = .ok (.aload_n 0, 1) := by decide +kernel
theorem dX12_monday_22 : decode cX12_monday 22 = .ok (.getfield 33, 3) := by decide +kernel
theorem dX12_monday_25 : decode cX12_monday 25 = .ok (.sipush 146, 3) := by decide +kernel
theorem dX12_monday_28 : decode cX12_monday 28 = .ok (.iaload, 1) := by decide +kernel
theorem dX12_monday_29 : decode cX12_monday 29 = .ok (.iadd, 1) := by decide +kernel
theorem dX12_monday_30 : decode cX12_monday 30 = .ok (.aload_n 0, 1) := by decide +kernel
theorem dX12_monday_31 : decode cX12_monday 31 = .ok (.getfield 33, 3) := by decide +kernel
theorem dX12_monday_34 : decode cX12_monday 34 = .ok (.sipush 161, 3) := by decide +kernel
theorem dX12_monday_37 : decode cX12_monday 37 = .ok (.iload_n 1, 1) := by decide +kernel
theorem dX12_monday_38 : decode cX12_monday 38 = .ok (.iadd, 1) := by decide +kernel
theorem dX12_monday_39 : decode cX12_monday 39 = .ok (.iaload, 1) := by decide +kernel
theorem dX12_monday_40 : decode cX12_monday 40 = .ok (.iastore, 1) := by decide +kernel
theorem dX12_monday_41 : decode cX12_monday 41 = .ok (.iinc 1 1, 3) := by decide +kernel
theorem dX12_monday_44 : decode cX12_monday 44 = .ok (.goto (-42), 3) := by decide +kernel
theorem dX12_monday_47 : decode cX12_monday 47 = .ok (.iconst 0, 1) := by decide +kernel
theorem dX12_monday_48 : decode cX12_monday 48 = .ok (.istore_n 1, 1) := by decide +kernel
theorem dX12_monday_49 : decode cX12_monday 49 = .ok (.iload_n 1, 1) := by decide +kernel
theorem dX12_monday_50 : decode cX12_monday 50 = .ok (.aload_n 0, 1) := by decide +kernel
theorem dX12_monday_51 : decode cX12_monday 51 = .ok (.getfield 33, 3) := by decide +kernel
theorem dX12_monday_54 : decode cX12_monday 54 = .ok (.iconst 0, 1) := by decide +kernel
theorem dX12_monday_55 : decode cX12_monday 55 = .ok (.iaload, 1) := by decide +kernel
theorem dX12_monday_56 : decode cX12_monday 56 = .ok (.if_icmp .ge 109, 3) := by decide +kernel
theorem dX12_monday_165 : decode cX12_monday 165 = .ok (.aload_n 0, 1) := by decide +kernel
theorem dX12_monday_166 : decode cX12_monday 166 = .ok (.getfield 33, 3) := by decide +kernel
