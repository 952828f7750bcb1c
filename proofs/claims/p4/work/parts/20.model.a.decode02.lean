theorem dX12_line_374 : decode cX12_line 374 = .ok (.iconst 1, 1) := by decide +kernel
theorem dX12_line_375 : decode cX12_line 375 = .ok (.iadd, 1) := by decide +kernel
theorem dX12_line_376 : decode cX12_line 376 = .ok (.iastore, 1) := by decide +kernel
theorem dX12_line_377 : decode cX12_line 377 = .ok (.iconst 1, 1) := by decide +kernel
theorem dX12_line_378 : decode cX12_line 378 = .ok (.ireturn, 1) := by decide +kernel
theorem dX12_line_379 : decode cX12_line 379 = .ok (.aload_n 0, 1) := by decide +kernel
theorem dX12_line_380 : decode cX12_line 380 = .ok (.bipush 18, 2) := by decide +kernel
theorem dX12_line_382 : decode cX12_line 382 = .ok (.aload_n 0, 1) := by decide +kernel
theorem dX12_line_383 : decode cX12_line 383 = .ok (.getfield 37, 3) := by decide +kernel
theorem dX12_line_386 : decode cX12_line 386 = .ok (.iconst 0, 1) := by decide +kernel
theorem dX12_line_387 : decode cX12_line 387 = .ok (.iaload, 1) := by decide +kernel
theorem dX12_line_388 : decode cX12_line 388 = .ok (.invokevirtual 209, 3) := by decide +kernel
theorem dX12_line_391 : decode cX12_line 391 = .ok (.ifCond .ne 5, 3) := by decide +kernel
theorem dX12_line_394 : decode cX12_line 394 = .ok (.iconst 0, 1) := by decide +kernel
theorem dX12_line_395 : decode cX12_line 395 = .ok (.ireturn, 1) := by decide +kernel
theorem dX12_line_396 : decode cX12_line 396 = .ok (.aload_n 0, 1) := by decide +kernel
theorem dX12_line_397 : decode cX12_line 397 = .ok (.getfield 181, 3) := by decide +kernel
theorem dX12_line_400 : decode cX12_line 400 = .ok (.istore 4, 2) := by decide +kernel
theorem dX12_line_402 : decode cX12_line 402 = .ok (.iload_n 2, 1) := by decide +kernel
theorem dX12_line_403 : decode cX12_line 403 = .ok (.iconst 1, 1) := by decide +kernel
theorem dX12_line_404 : decode cX12_line 404 = .ok (.if_icmp .ne 27, 3) := by decide +kernel
theorem dX12_line_407 : decode cX12_line 407 = .ok (.aload_n 0, 1) := by decide +kernel
theorem dX12_line_408 : decode cX12_line 408 = .ok (.getfield 37, 3) := by decide +kernel
theorem dX12_line_411 : decode cX12_line 411 = .ok (.bipush 56, 2) := by decide +kernel
theorem dX12_line_413 : decode cX12_line 413 = .ok (.bipush 9, 2) := by decide +kernel
theorem dX12_line_415 : decode cX12_line 415 = .ok (.iload_n 3, 1) := by decide +kernel
theorem dX12_line_416 : decode cX12_line 416 = .ok (.imul, 1) := by decide +kernel
theorem dX12_line_417 : decode cX12_line 417 = .ok (.iadd, 1) := by decide +kernel
theorem dX12_line_418 : decode cX12_line 418 = .ok (.iload 4, 2) := by decide +kernel
theorem dX12_line_420 : decode cX12_line 420 = .ok (.iadd, 1) := by decide +kernel
theorem dX12_line_421 : decode cX12_line 421 = .ok (.iaload, 1) := by decide +kernel
theorem dX12_line_422 : decode cX12_line 422 = .ok (.ifCond .le 9, 3) := by decide +kernel
theorem dX12_line_425 : decode cX12_line 425 = .ok (.aload_n 0, 1) := by decide +kernel
theorem dX12_line_426 : decode cX12_line 426 = .ok (.iconst 3, 1) := by decide +kernel
theorem dX12_line_427 : decode cX12_line 427 = .ok (.invokevirtual 171, 3) := by decide +kernel
theorem dX12_line_430 : decode cX12_line 430 = .ok (.ireturn, 1) := by decide +kernel
theorem dX12_line_431 : decode cX12_line 431 = .ok (.aload_n 0, 1) := by decide +kernel
theorem dX12_line_432 : decode cX12_line 432 = .ok (.invokevirtual 174, 3) := by decide +kernel
theorem dX12_line_435 : decode cX12_line 435 = .ok (.iload_n 2, 1) := by decide +kernel
theorem dX12_line_436 : decode cX12_line 436 = .ok (.iconst 1, 1) := by decide +kernel
theorem dX12_line_437 : decode cX12_line 437 = .ok (.if_icmp .ne 21, 3) := by decide +kernel
theorem dX12_line_440 : decode cX12_line 440 = .ok (.aload_n 0, 1) := by decide +kernel
theorem dX12_line_441 : decode cX12_line 441 = .ok (.bipush 56, 2) := by decide +kernel
theorem dX12_line_443 : decode cX12_line 443 = .ok (.bipush 9, 2) := by decide +kernel
theorem dX12_line_445 : decode cX12_line 445 = .ok (.iload_n 3, 1) := by decide +kernel
theorem dX12_line_446 : decode cX12_line 446 = .ok (.imul, 1) := by decide +kernel
theorem dX12_line_447 : decode cX12_line 447 = .ok (.iadd, 1) := by decide +kernel
theorem dX12_line_448 : decode cX12_line 448 = .ok (.iload 4, 2) := by decide +kernel
theorem dX12_line_450 : decode cX12_line 450 = .ok (.iadd, 1) := by decide +kernel
theorem dX12_line_451 : decode cX12_line 451 = .ok (.iconst 1, 1) := by decide +kernel
theorem dX12_line_452 : decode cX12_line 452 = .ok (.bipush 99, 2) := by decide +kernel
theorem dX12_line_454 : decode cX12_line 454 = .ok (.invokevirtual 203, 3) := by decide +kernel
theorem dX12_line_457 : decode cX12_line 457 = .ok (.ireturn, 1) := by decide +kernel
theorem dX12_line_458 : decode cX12_line 458 = .ok (.aload_n 0, 1) := by decide +kernel
theorem dX12_line_459 : decode cX12_line 459 = .ok (.getfield 37, 3) := by decide +kernel
theorem dX12_line_462 : decode cX12_line 462 = .ok (.bipush 47, 2) := by decide +kernel
theorem dX12_line_464 : decode cX12_line 464 = .ok (.iload_n 3, 1) := by decide +kernel
theorem dX12_line_465 : decode cX12_line 465 = .ok (.iadd, 1) := by decide +kernel
theorem dX12_line_466 : decode cX12_line 466 = .ok (.iload 4, 2) := by decide +kernel
theorem dX12_line_468 : decode cX12_line 468 = .ok (.iconst 1, 1) := by decide +kernel
theorem dX12_line_469 : decode cX12_line 469 = .ok (.iadd, 1) := by decide +kernel
theorem dX12_line_470 : decode cX12_line 470 = .ok (.iastore, 1) := by decide +kernel
theorem dX12_line_471 : decode cX12_line 471 = .ok (.iconst 1, 1) := by decide +kernel
theorem dX12_line_472 : decode cX12_line 472 = .ok (.ireturn, 1) := by decide +kernel
theorem dX12_looksAt_0 : decode cX12_looksAt 0 = .ok (.aload_n 0, 1) := by decide +kernel
theorem dX12_looksAt_1 : decode cX12_looksAt 1 = .ok (.invokevirtual 188, 3) := by decide +kernel
theorem dX12_looksAt_4 : decode cX12_looksAt 4 = .ok (.ifCond .ne 9, 3) := by decide +kernel
theorem dX12_looksAt_7 : decode cX12_looksAt 7 = .ok (.aload_n 0, 1) := by decide +kernel
theorem dX12_looksAt_8 : decode cX12_looksAt 8 = .ok (.iconst 1, 1) := by decide +kernel
theorem dX12_looksAt_9 : decode cX12_looksAt 9 = .ok (.invokevirtual 171, 3) := by decide +kernel
theorem dX12_looksAt_12 : decode cX12_looksAt 12 = .ok (.ireturn, 1) := by decide +kernel
theorem dX12_looksAt_13 : decode cX12_looksAt 13 = .ok (.aload_n 0, 1) := by decide +kernel
theorem dX12_looksAt_14 : decode cX12_looksAt 14 = .ok (.aload_n 0, 1) := by decide +kernel
theorem dX12_looksAt_15 : decode cX12_looksAt 15 = .ok (.iload_n 1, 1) := by decide +kernel
theorem dX12_looksAt_16 : decode cX12_looksAt 16 = .ok (.iload_n 2, 1) := by decide +kernel
theorem dX12_looksAt_17 : decode cX12_looksAt 17 = .ok (.invokevirtual 192, 3) := by decide +kernel
theorem dX12_looksAt_20 : decode cX12_looksAt 20 = .ok (.putfield 181, 3) := by decide +kernel
theorem dX12_looksAt_23 : decode cX12_looksAt 23 = .ok (.aload_n 0, 1) := by decide +kernel
theorem dX12_looksAt_24 : decode cX12_looksAt 24 = .ok (.getfield 181, 3) := by decide +kernel
theorem dX12_looksAt_27 : decode cX12_looksAt 27 = .ok (.ifCond .ge 11, 3) := by decide +kernel
theorem dX12_looksAt_30 : decode cX12_looksAt 30 = .ok (.aload_n 0, 1) := by decide +kernel
theorem dX12_looksAt_31 : decode cX12_looksAt 31 = .ok (.iconst 3, 1) := by decide +kernel
theorem dX12_looksAt_32 : decode cX12_looksAt 32 = .ok (.invokevirtual 171, 3) := by decide +kernel
theorem dX12_looksAt_35 : decode cX12_looksAt 35 = .ok (.ifCond .eq 7, 3) := by decide +kernel
theorem dX12_looksAt_38 : decode cX12_looksAt 38 = .ok (.iconst 1, 1) := by decide +kernel
theorem dX12_looksAt_39 : decode cX12_looksAt 39 = .ok (.goto 4, 3) := by decide +kernel
theorem dX12_looksAt_42 : decode cX12_looksAt 42 = .ok (.iconst 0, 1) := by decide +kernel
theorem dX12_looksAt_43 : decode cX12_looksAt 43 = .ok (.ireturn, 1) := by decide +kernel
theorem dX12_next_0 : decode cX12_next 0 = .ok (.aload_n 0, 1) := by decide +kernel
theorem dX12_next_1 : decode cX12_next 1 = .ok (.invokevirtual 135, 3) := by decide +kernel
theorem dX12_next_4 : decode cX12_next 4 = .ok (.bipush 32, 2) := by decide +kernel
theorem dX12_next_6 : decode cX12_next 6 = .ok (.if_icmp .eq 12, 3) := by decide +kernel
theorem dX12_next_9 : decode cX12_next 9 = .ok (.aload_n 0, 1) := by decide +kernel
theorem dX12_next_10 : decode cX12_next 10 = .ok (.invokevirtual 135, 3) := by decide +kernel
theorem dX12_next_13 : decode cX12_next 13 = .ok (.bipush 10, 2) := by decide +kernel
theorem dX12_next_15 : decode cX12_next 15 = .ok (.if_icmp .ne 16, 3) := by decide +kernel
theorem dX12_next_18 : decode cX12_next 18 = .ok (.aload_n 0, 1) := by decide +kernel
theorem dX12_next_19 : decode cX12_next 19 = .ok (.dup, 1) := by decide +kernel
theorem dX12_next_20 : decode cX12_next 20 = .ok (.getfield 21, 3) := by decide +kernel
theorem dX12_next_23 : decode cX12_next 23 = .ok (.iconst 1, 1) := by decide +kernel
theorem dX12_next_24 : decode cX12_next 24 = .ok (.iadd, 1) := by decide +kernel
theorem dX12_next_25 : decode cX12_next 25 = .ok (.putfield 21, 3) := by decide +kernel
theorem dX12_next_28 : decode cX12_next 28 = .ok (.goto (-28), 3) := by decide +kernel
theorem dX12_next_31 : decode cX12_next 31 = .ok (.aload_n 0, 1) := by decide +kernel
theorem dX12_next_32 : decode cX12_next 32 = .ok (.aload_n 0, 1) := by decide +kernel
theorem dX12_next_33 : decode cX12_next 33 = .ok (.getfield 21, 3) := by decide +kernel
theorem dX12_next_36 : decode cX12_next 36 = .ok (.putfield 139, 3) := by decide +kernel
theorem dX12_next_39 : decode cX12_next 39 = .ok (.aload_n 0, 1) := by decide +kernel
theorem dX12_next_40 : decode cX12_next 40 = .ok (.iconst 0, 1) := by decide +kernel
theorem dX12_next_41 : decode cX12_next 41 = .ok (.putfield 142, 3) := by decide +kernel
theorem dX12_next_44 : decode cX12_next 44 = .ok (.aload_n 0, 1) := by decide +kernel
theorem dX12_next_45 : decode cX12_next 45 = .ok (.getfield 18, 3) := by decide +kernel
theorem dX12_next_48 : decode cX12_next 48 = .ok (.aload_n 0, 1) := by decide +kernel
theorem dX12_next_49 : decode cX12_next 49 = .ok (.getfield 24, 3) := by decide +kernel
theorem dX12_next_52 : decode cX12_next 52 = .ok (.if_icmp .le 28, 3) := by decide +kernel
theorem dX12_next_55 : decode cX12_next 55 = .ok (.aload_n 0, 1) := by decide +kernel
theorem dX12_next_56 : decode cX12_next 56 = .ok (.getfield 21, 3) := by decide +kernel
theorem dX12_next_59 : decode cX12_next 59 = .ok (.aload_n 0, 1) := by decide +kernel
theorem dX12_next_60 : decode cX12_next 60 = .ok (.getfield 24, 3) := by decide +kernel
theorem dX12_next_63 : decode cX12_next 63 = .ok (.if_icmp .lt 17, 3) := by decide +kernel
theorem dX12_next_66 : decode cX12_next 66 = .ok (.aload_n 0, 1) := by decide +kernel
theorem dX12_next_67 : decode cX12_next 67 = .ok (.aload_n 0, 1) := by decide +kernel
theorem dX12_next_68 : decode cX12_next 68 = .ok (.getfield 24, 3) := by decide +kernel
theorem dX12_next_71 : decode cX12_next 71 = .ok (.putfield 139, 3) := by decide +kernel
theorem dX12_next_74 : decode cX12_next 74 = .ok (.aload_n 0, 1) := by decide +kernel
theorem dX12_next_75 : decode cX12_next 75 = .ok (.iconst 4, 1) := by decide +kernel
theorem dX12_next_76 : decode cX12_next 76 = .ok (.putfield 145, 3) := by decide +kernel
theorem dX12_next_79 : decode cX12_next 79 = .ok (.return_, 1) := by decide +kernel
theorem dX12_next_80 : decode cX12_next 80 = .ok (.aload_n 0, 1) := by decide +kernel
theorem dX12_next_81 : decode cX12_next 81 = .ok (.invokevirtual 135, 3) := by decide +kernel
theorem dX12_next_84 : decode cX12_next 84 = .ok (.istore_n 1, 1) := by decide +kernel
theorem dX12_next_85 : decode cX12_next 85 = .ok (.iload_n 1, 1) := by decide +kernel
theorem dX12_next_86 : decode cX12_next 86 = .ok (.ifCond .ge 9, 3) := by decide +kernel
theorem dX12_next_89 : decode cX12_next 89 = .ok (.aload_n 0, 1) := by decide +kernel
theorem dX12_next_90 : decode cX12_next 90 = .ok (.iconst 0, 1) := by decide +kernel
theorem dX12_next_91 : decode cX12_next 91 = .ok (.putfield 145, 3) := by decide +kernel
theorem dX12_next_94 : decode cX12_next 94 = .ok (.return_, 1) := by decide +kernel
theorem dX12_next_95 : decode cX12_next 95 = .ok (.iload_n 1, 1) := by decide +kernel
theorem dX12_next_96 : decode cX12_next 96 = .ok (.invokestatic 148, 3) := by decide +kernel
theorem dX12_next_99 : decode cX12_next 99 = .ok (.ifCond .ne 65, 3) := by decide +kernel
theorem dX12_next_102 : decode cX12_next 102 = .ok (.iload_n 1, 1) := by decide +kernel
theorem dX12_next_103 : decode cX12_next 103 = .ok (.invokestatic 152, 3) := by decide +kernel
theorem dX12_next_106 : decode cX12_next 106 = .ok (.ifCond .ne 58, 3) := by decide +kernel
theorem dX12_next_109 : decode cX12_next 109 = .ok (.aload_n 0, 1) := by decide +kernel
theorem dX12_next_110 : decode cX12_next 110 = .ok (.iload_n 1, 1) := by decide +kernel
theorem dX12_next_111 : decode cX12_next 111 = .ok (.bipush 59, 2) := by decide +kernel
theorem dX12_next_113 : decode cX12_next 113 = .ok (.if_icmp .eq 27, 3) := by decide +kernel
theorem dX12_next_116 : decode cX12_next 116 = .ok (.iload_n 1, 1) := by decide +kernel
theorem dX12_next_117 : decode cX12_next 117 = .ok (.bipush 40, 2) := by decide +kernel
theorem dX12_next_119 : decode cX12_next 119 = .ok (.if_icmp .eq 21, 3) := by decide +kernel
theorem dX12_next_122 : decode cX12_next 122 = .ok (.iload_n 1, 1) := by decide +kernel
theorem dX12_next_123 : decode cX12_next 123 = .ok (.bipush 41, 2) := by decide +kernel
theorem dX12_next_125 : decode cX12_next 125 = .ok (.if_icmp .eq 15, 3) := by decide +kernel
theorem dX12_next_128 : decode cX12_next 128 = .ok (.iload_n 1, 1) := by decide +kernel
theorem dX12_next_129 : decode cX12_next 129 = .ok (.bipush 60, 2) := by decide +kernel
theorem dX12_next_131 : decode cX12_next 131 = .ok (.if_icmp .lt 13, 3) := by decide +kernel
theorem dX12_next_134 : decode cX12_next 134 = .ok (.iload_n 1, 1) := by decide +kernel
theorem dX12_next_135 : decode cX12_next 135 = .ok (.bipush 62, 2) := by decide +kernel
theorem dX12_next_137 : decode cX12_next 137 = .ok (.if_icmp .gt 7, 3) := by decide +kernel
theorem dX12_next_140 : decode cX12_next 140 = .ok (.iconst 3, 1) := by decide +kernel
theorem dX12_next_141 : decode cX12_next 141 = .ok (.goto 4, 3) := by decide +kernel
theorem dX12_next_144 : decode cX12_next 144 = .ok (.iconst 4, 1) := by decide +kernel
theorem dX12_next_145 : decode cX12_next 145 = .ok (.putfield 145, 3) := by decide +kernel
theorem dX12_next_148 : decode cX12_next 148 = .ok (.aload_n 0, 1) := by decide +kernel
theorem dX12_next_149 : decode cX12_next 149 = .ok (.iload_n 1, 1) := by decide +kernel
theorem dX12_next_150 : decode cX12_next 150 = .ok (.putfield 155, 3) := by decide +kernel
theorem dX12_next_153 : decode cX12_next 153 = .ok (.aload_n 0, 1) := by decide +kernel
theorem dX12_next_154 : decode cX12_next 154 = .ok (.dup, 1) := by decide +kernel
theorem dX12_next_155 : decode cX12_next 155 = .ok (.getfield 21, 3) := by decide +kernel
theorem dX12_next_158 : decode cX12_next 158 = .ok (.iconst 1, 1) := by decide +kernel
theorem dX12_next_159 : decode cX12_next 159 = .ok (.iadd, 1) := by decide +kernel
theorem dX12_next_160 : decode cX12_next 160 = .ok (.putfield 21, 3) := by decide +kernel
theorem dX12_next_163 : decode cX12_next 163 = .ok (.return_, 1) := by decide +kernel
theorem dX12_next_164 : decode cX12_next 164 = .ok (.iload_n 1, 1) := by decide +kernel
theorem dX12_next_165 : decode cX12_next 165 = .ok (.invokestatic 148, 3) := by decide +kernel
theorem dX12_next_168 : decode cX12_next 168 = .ok (.istore_n 2, 1) := by decide +kernel
theorem dX12_next_169 : decode cX12_next 169 = .ok (.iconst 1, 1) := by decide +kernel
theorem dX12_next_170 : decode cX12_next 170 = .ok (.istore_n 3, 1) := by decide +kernel
theorem dX12_next_171 : decode cX12_next 171 = .ok (.aload_n 0, 1) := by decide +kernel
theorem dX12_next_172 : decode cX12_next 172 = .ok (.lconst 0, 1) := by decide +kernel
theorem dX12_next_173 : decode cX12_next 173 = .ok (.putfield 158, 3) := by decide +kernel
theorem dX12_next_176 : decode cX12_next 176 = .ok (.aload_n 0, 1) := by decide +kernel
theorem dX12_next_177 : decode cX12_next 177 = .ok (.iconst 0, 1) := by decide +kernel
theorem dX12_next_178 : decode cX12_next 178 = .ok (.putfield 155, 3) := by decide +kernel
theorem dX12_next_181 : decode cX12_next 181 = .ok (.aload_n 0, 1) := by decide +kernel
theorem dX12_next_182 : decode cX12_next 182 = .ok (.invokevirtual 135, 3) := by decide +kernel
theorem dX12_next_185 : decode cX12_next 185 = .ok (.invokestatic 148, 3) := by decide +kernel
theorem dX12_next_188 : decode cX12_next 188 = .ok (.ifCond .ne 13, 3) := by decide +kernel
theorem dX12_next_191 : decode cX12_next 191 = .ok (.aload_n 0, 1) := by decide +kernel
theorem dX12_next_192 : decode cX12_next 192 = .ok (.invokevirtual 135, 3) := by decide +kernel
theorem dX12_next_195 : decode cX12_next 195 = .ok (.invokestatic 152, 3) := by decide +kernel
theorem dX12_next_198 : decode cX12_next 198 = .ok (.ifCond .eq 100, 3) := by decide +kernel
theorem dX12_next_201 : decode cX12_next 201 = .ok (.iload_n 3, 1) := by decide +kernel
theorem dX12_next_202 : decode cX12_next 202 = .ok (.ifCond .eq 18, 3) := by decide +kernel
theorem dX12_next_205 : decode cX12_next 205 = .ok (.aload_n 0, 1) := by decide +kernel
theorem dX12_next_206 : decode cX12_next 206 = .ok (.invokevirtual 135, 3) := by decide +kernel
theorem dX12_next_209 : decode cX12_next 209 = .ok (.invokestatic 148, 3) := by decide +kernel
theorem dX12_next_212 : decode cX12_next 212 = .ok (.iload_n 2, 1) := by decide +kernel
theorem dX12_next_213 : decode cX12_next 213 = .ok (.if_icmp .ne 7, 3) := by decide +kernel
theorem dX12_next_216 : decode cX12_next 216 = .ok (.iconst 1, 1) := by decide +kernel
theorem dX12_next_217 : decode cX12_next 217 = .ok (.goto 4, 3) := by decide +kernel
theorem dX12_next_220 : decode cX12_next 220 = .ok (.iconst 0, 1) := by decide +kernel
theorem dX12_next_221 : decode cX12_next 221 = .ok (.istore_n 3, 1) := by decide +kernel
theorem dX12_next_222 : decode cX12_next 222 = .ok (.aload_n 0, 1) := by decide +kernel
theorem dX12_next_223 : decode cX12_next 223 = .ok (.getfield 142, 3) := by decide +kernel
theorem dX12_next_226 : decode cX12_next 226 = .ok (.bipush 7, 2) := by decide +kernel
theorem dX12_next_228 : decode cX12_next 228 = .ok (.if_icmp .ge 20, 3) := by decide +kernel
theorem dX12_next_231 : decode cX12_next 231 = .ok (.aload_n 0, 1) := by decide +kernel
theorem dX12_next_232 : decode cX12_next 232 = .ok (.aload_n 0, 1) := by decide +kernel
theorem dX12_next_233 : decode cX12_next 233 = .ok (.getfield 158, 3) := by decide +kernel
theorem dX12_next_236 : decode cX12_next 236 = .ok (.bipush 8, 2) := by decide +kernel
theorem dX12_next_238 : decode cX12_next 238 = .ok (.lshl, 1) := by decide +kernel
theorem dX12_next_239 : decode cX12_next 239 = .ok (.aload_n 0, 1) := by decide +kernel
theorem dX12_next_240 : decode cX12_next 240 = .ok (.invokevirtual 135, 3) := by decide +kernel
theorem dX12_next_243 : decode cX12_next 243 = .ok (.i2l, 1) := by decide +kernel
theorem dX12_next_244 : decode cX12_next 244 = .ok (.lor, 1) := by decide +kernel
theorem dX12_next_245 : decode cX12_next 245 = .ok (.putfield 158, 3) := by decide +kernel
theorem dX12_next_248 : decode cX12_next 248 = .ok (.aload_n 0, 1) := by decide +kernel
theorem dX12_next_249 : decode cX12_next 249 = .ok (.getfield 142, 3) := by decide +kernel
theorem dX12_next_252 : decode cX12_next 252 = .ok (.iconst 3, 1) := by decide +kernel
theorem dX12_next_253 : decode cX12_next 253 = .ok (.if_icmp .ge 22, 3) := by decide +kernel
theorem dX12_next_256 : decode cX12_next 256 = .ok (.aload_n 0, 1) := by decide +kernel
theorem dX12_next_257 : decode cX12_next 257 = .ok (.bipush 10, 2) := by decide +kernel
theorem dX12_next_259 : decode cX12_next 259 = .ok (.aload_n 0, 1) := by decide +kernel
theorem dX12_next_260 : decode cX12_next 260 = .ok (.getfield 155, 3) := by decide +kernel
theorem dX12_next_263 : decode cX12_next 263 = .ok (.imul, 1) := by decide +kernel
theorem dX12_next_264 : decode cX12_next 264 = .ok (.aload_n 0, 1) := by decide +kernel
theorem dX12_next_265 : decode cX12_next 265 = .ok (.invokevirtual 135, 3) := by decide +kernel
theorem dX12_next_268 : decode cX12_next 268 = .ok (.iadd, 1) := by decide +kernel
theorem dX12_next_269 : decode cX12_next 269 = .ok (.bipush 48, 2) := by decide +kernel
theorem dX12_next_271 : decode cX12_next 271 = .ok (.isub, 1) := by decide +kernel
theorem dX12_next_272 : decode cX12_next 272 = .ok (.putfield 155, 3) := by decide +kernel
theorem dX12_next_275 : decode cX12_next 275 = .ok (.aload_n 0, 1) := by decide +kernel
theorem dX12_next_276 : decode cX12_next 276 = .ok (.dup, 1) := by decide +kernel
theorem dX12_next_277 : decode cX12_next 277 = .ok (.getfield 142, 3) := by decide +kernel
theorem dX12_next_280 : decode cX12_next 280 = .ok (.iconst 1, 1) := by decide +kernel
theorem dX12_next_281 : decode cX12_next 281 = .ok (.iadd, 1) := by decide +kernel
theorem dX12_next_282 : decode cX12_next 282 = .ok (.putfield 142, 3) := by decide +kernel
theorem dX12_next_285 : decode cX12_next 285 = .ok (.aload_n 0, 1) := by decide +kernel
theorem dX12_next_286 : decode cX12_next 286 = .ok (.dup, 1) := by decide +kernel
theorem dX12_next_287 : decode cX12_next 287 = .ok (.getfield 21, 3) := by decide +kernel
theorem dX12_next_290 : decode cX12_next 290 = .ok (.iconst 1, 1) := by decide +kernel
theorem dX12_next_291 : decode cX12_next 291 = .ok (.iadd, 1) := by decide +kernel
theorem dX12_next_292 : decode cX12_next 292 = .ok (.putfield 21, 3) := by decide +kernel
theorem dX12_next_295 : decode cX12_next 295 = .ok (.goto (-114), 3) := by decide +kernel
theorem dX12_next_298 : decode cX12_next 298 = .ok (.aload_n 0, 1) := by decide +kernel
theorem dX12_next_299 : decode cX12_next 299 = .ok (.iload_n 3, 1) := by decide +kernel
theorem dX12_next_300 : decode cX12_next 300 = .ok (.ifCond .eq 20, 3) := by decide +kernel
theorem dX12_next_303 : decode cX12_next 303 = .ok (.aload_n 0, 1) := by decide +kernel
theorem dX12_next_304 : decode cX12_next 304 = .ok (.getfield 142, 3) := by decide +kernel
theorem dX12_next_307 : decode cX12_next 307 = .ok (.iload_n 2, 1) := by decide +kernel
theorem dX12_next_308 : decode cX12_next 308 = .ok (.ifCond .eq 8, 3) := by decide +kernel
theorem dX12_next_311 : decode cX12_next 311 = .ok (.bipush 7, 2) := by decide +kernel
theorem dX12_next_313 : decode cX12_next 313 = .ok (.goto 4, 3) := by decide +kernel
theorem dX12_next_316 : decode cX12_next 316 = .ok (.iconst 3, 1) := by decide +kernel
theorem dX12_next_317 : decode cX12_next 317 = .ok (.if_icmp .le 7, 3) := by decide +kernel
theorem dX12_next_320 : decode cX12_next 320 = .ok (.iconst 4, 1) := by decide +kernel
theorem dX12_next_321 : decode cX12_next 321 = .ok (.goto 12, 3) := by decide +kernel
theorem dX12_next_324 : decode cX12_next 324 = .ok (.iload_n 2, 1) := by decide +kernel
theorem dX12_next_325 : decode cX12_next 325 = .ok (.ifCond .eq 7, 3) := by decide +kernel
theorem dX12_next_328 : decode cX12_next 328 = .ok (.iconst 1, 1) := by decide +kernel
theorem dX12_next_329 : decode cX12_next 329 = .ok (.goto 4, 3) := by decide +kernel
theorem dX12_next_332 : decode cX12_next 332 = .ok (.iconst 2, 1) := by decide +kernel
theorem dX12_next_333 : decode cX12_next 333 = .ok (.putfield 145, 3) := by decide +kernel
theorem dX12_next_336 : decode cX12_next 336 = .ok (.return_, 1) := by decide +kernel
theorem dX12_puts_0 : decode cX12_puts 0 = .ok (.aload_n 0, 1) := by decide +kernel
theorem dX12_puts_1 : decode cX12_puts 1 = .ok (.iload_n 2, 1) := by decide +kernel
theorem dX12_puts_2 : decode cX12_puts 2 = .ok (.iload_n 3, 1) := by decide +kernel
theorem dX12_puts_3 : decode cX12_puts 3 = .ok (.invokevirtual 184, 3) := by decide +kernel
theorem dX12_puts_6 : decode cX12_puts 6 = .ok (.ifCond .ne 5, 3) := by decide +kernel
theorem dX12_puts_9 : decode cX12_puts 9 = .ok (.iconst 0, 1) := by decide +kernel
theorem dX12_puts_10 : decode cX12_puts 10 = .ok (.ireturn, 1) := by decide +kernel
theorem dX12_puts_11 : decode cX12_puts 11 = .ok (.aload_n 0, 1) := by decide +kernel
theorem dX12_puts_12 : decode cX12_puts 12 = .ok (.getfield 37, 3) := by decide +kernel
theorem dX12_puts_15 : decode cX12_puts 15 = .ok (.iload_n 1, 1) := by decide +kernel
theorem dX12_puts_16 : decode cX12_puts 16 = .ok (.aload_n 0, 1) := by decide +kernel
theorem dX12_puts_17 : decode cX12_puts 17 = .ok (.getfield 181, 3) := by decide +kernel
theorem dX12_puts_20 : decode cX12_puts 20 = .ok (.iastore, 1) := by decide +kernel
theorem dX12_puts_21 : decode cX12_puts 21 = .ok (.iconst 1, 1) := by decide +kernel
theorem dX12_puts_22 : decode cX12_puts 22 = .ok (.ireturn, 1) := by decide +kernel
theorem dX12_readSoul_0 : decode cX12_readSoul 0 = .ok (.aload_n 0, 1) := by decide +kernel
theorem dX12_readSoul_1 : decode cX12_readSoul 1 = .ok (.getfield 37, 3) := by decide +kernel
theorem dX12_readSoul_4 : decode cX12_readSoul 4 = .ok (.iconst 1, 1) := by decide +kernel
theorem dX12_readSoul_5 : decode cX12_readSoul 5 = .ok (.iaload, 1) := by decide +kernel
theorem dX12_readSoul_6 : decode cX12_readSoul 6 = .ok (.istore_n 1, 1) := by decide +kernel
theorem dX12_readSoul_7 : decode cX12_readSoul 7 = .ok (.iload_n 1, 1) := by decide +kernel
theorem dX12_readSoul_8 : decode cX12_readSoul 8 = .ok (.bipush 9, 2) := by decide +kernel
theorem dX12_readSoul_10 : decode cX12_readSoul 10 = .ok (.if_icmp .ne 9, 3) := by decide +kernel
theorem dX12_readSoul_13 : decode cX12_readSoul 13 = .ok (.aload_n 0, 1) := by decide +kernel
theorem dX12_readSoul_14 : decode cX12_readSoul 14 = .ok (.iconst 4, 1) := by decide +kernel
theorem dX12_readSoul_15 : decode cX12_readSoul 15 = .ok (.invokevirtual 171, 3) := by decide +kernel
theorem dX12_readSoul_18 : decode cX12_readSoul 18 = .ok (.ireturn, 1) := by decide +kernel
theorem dX12_readSoul_19 : decode cX12_readSoul 19 = .ok (.aload_n 0, 1) := by decide +kernel
theorem dX12_readSoul_20 : decode cX12_readSoul 20 = .ok (.invokevirtual 174, 3) := by decide +kernel
theorem dX12_readSoul_23 : decode cX12_readSoul 23 = .ok (.aload_n 0, 1) := by decide +kernel
theorem dX12_readSoul_24 : decode cX12_readSoul 24 = .ok (.bipush 27, 2) := by decide +kernel
theorem dX12_readSoul_26 : decode cX12_readSoul 26 = .ok (.iload_n 1, 1) := by decide +kernel
theorem dX12_readSoul_27 : decode cX12_readSoul 27 = .ok (.iadd, 1) := by decide +kernel
theorem dX12_readSoul_28 : decode cX12_readSoul 28 = .ok (.invokevirtual 200, 3) := by decide +kernel
theorem dX12_readSoul_31 : decode cX12_readSoul 31 = .ok (.ifCond .eq 18, 3) := by decide +kernel
theorem dX12_readSoul_34 : decode cX12_readSoul 34 = .ok (.aload_n 0, 1) := by decide +kernel
theorem dX12_readSoul_35 : decode cX12_readSoul 35 = .ok (.bipush 29, 2) := by decide +kernel
theorem dX12_readSoul_37 : decode cX12_readSoul 37 = .ok (.iload_n 1, 1) := by decide +kernel
theorem dX12_readSoul_38 : decode cX12_readSoul 38 = .ok (.iadd, 1) := by decide +kernel
theorem dX12_readSoul_39 : decode cX12_readSoul 39 = .ok (.iconst 0, 1) := by decide +kernel
theorem dX12_readSoul_40 : decode cX12_readSoul 40 = .ok (.sipush 999, 3) := by decide +kernel
theorem dX12_readSoul_43 : decode cX12_readSoul 43 = .ok (.invokevirtual 203, 3) := by decide +kernel
theorem dX12_readSoul_46 : decode cX12_readSoul 46 = .ok (.ifCond .ne 5, 3) := by decide +kernel
theorem dX12_readSoul_49 : decode cX12_readSoul 49 = .ok (.iconst 0, 1) := by decide +kernel
theorem dX12_readSoul_50 : decode cX12_readSoul 50 = .ok (.ireturn, 1) := by decide +kernel
theorem dX12_readSoul_51 : decode cX12_readSoul 51 = .ok (.aload_n 0, 1) := by decide +kernel
theorem dX12_readSoul_52 : decode cX12_readSoul 52 = .ok (.getfield 37, 3) := by decide +kernel
theorem dX12_readSoul_55 : decode cX12_readSoul 55 = .ok (.bipush 38, 2) := by decide +kernel
theorem dX12_readSoul_57 : decode cX12_readSoul 57 = .ok (.iload_n 1, 1) := by decide +kernel
theorem dX12_readSoul_58 : decode cX12_readSoul 58 = .ok (.iadd, 1) := by decide +kernel
theorem dX12_readSoul_59 : decode cX12_readSoul 59 = .ok (.iconst 0, 1) := by decide +kernel
theorem dX12_readSoul_60 : decode cX12_readSoul 60 = .ok (.iastore, 1) := by decide +kernel
theorem dX12_readSoul_61 : decode cX12_readSoul 61 = .ok (.aload_n 0, 1) := by decide +kernel
theorem dX12_readSoul_62 : decode cX12_readSoul 62 = .ok (.ldc2_w 89, 3) := by decide +kernel
theorem dX12_readSoul_65 : decode cX12_readSoul 65 = .ok (.invokevirtual 196, 3) := by decide +kernel
theorem dX12_readSoul_68 : decode cX12_readSoul 68 = .ok (.ifCond .eq 80, 3) := by decide +kernel
theorem dX12_readSoul_71 : decode cX12_readSoul 71 = .ok (.aload_n 0, 1) := by decide +kernel
theorem dX12_readSoul_72 : decode cX12_readSoul 72 = .ok (.invokevirtual 174, 3) := by decide +kernel
theorem dX12_readSoul_75 : decode cX12_readSoul 75 = .ok (.aload_n 0, 1) := by decide +kernel
theorem dX12_readSoul_76 : decode cX12_readSoul 76 = .ok (.bipush 18, 2) := by decide +kernel
theorem dX12_readSoul_78 : decode cX12_readSoul 78 = .ok (.aload_n 0, 1) := by decide +kernel
theorem dX12_readSoul_79 : decode cX12_readSoul 79 = .ok (.getfield 37, 3) := by decide +kernel
theorem dX12_readSoul_82 : decode cX12_readSoul 82 = .ok (.iconst 0, 1) := by decide +kernel
theorem dX12_readSoul_83 : decode cX12_readSoul 83 = .ok (.iaload, 1) := by decide +kernel
theorem dX12_readSoul_84 : decode cX12_readSoul 84 = .ok (.invokevirtual 209, 3) := by decide +kernel
theorem dX12_readSoul_87 : decode cX12_readSoul 87 = .ok (.ifCond .ne 5, 3) := by decide +kernel
theorem dX12_readSoul_90 : decode cX12_readSoul 90 = .ok (.iconst 0, 1) := by decide +kernel
theorem dX12_readSoul_91 : decode cX12_readSoul 91 = .ok (.ireturn, 1) := by decide +kernel
theorem dX12_readSoul_92 : decode cX12_readSoul 92 = .ok (.iconst 0, 1) := by decide +kernel
theorem dX12_readSoul_93 : decode cX12_readSoul 93 = .ok (.istore_n 2, 1) := by decide +kernel
theorem dX12_readSoul_94 : decode cX12_readSoul 94 = .ok (.iload_n 2, 1) := by decide +kernel
theorem dX12_readSoul_95 : decode cX12_readSoul 95 = .ok (.iload_n 1, 1) := by decide +kernel
theorem dX12_readSoul_96 : decode cX12_readSoul 96 = .ok (.if_icmp .ge 33, 3) := by decide +kernel
theorem dX12_readSoul_99 : decode cX12_readSoul 99 = .ok (.aload_n 0, 1) := by decide +kernel
theorem dX12_readSoul_100 : decode cX12_readSoul 100 = .ok (.getfield 37, 3) := by decide +kernel
theorem dX12_readSoul_103 : decode cX12_readSoul 103 = .ok (.bipush 38, 2) := by decide +kernel
theorem dX12_readSoul_105 : decode cX12_readSoul 105 = .ok (.iload_n 2, 1) := by decide +kernel
theorem dX12_readSoul_106 : decode cX12_readSoul 106 = .ok (.iadd, 1) := by decide +kernel
theorem dX12_readSoul_107 : decode cX12_readSoul 107 = .ok (.iaload, 1) := by decide +kernel
theorem dX12_readSoul_108 : decode cX12_readSoul 108 = .ok (.aload_n 0, 1) := by decide +kernel
theorem dX12_readSoul_109 : decode cX12_readSoul 109 = .ok (.getfield 181, 3) := by decide +kernel
theorem dX12_readSoul_112 : decode cX12_readSoul 112 = .ok (.iconst 1, 1) := by decide +kernel
theorem dX12_readSoul_113 : decode cX12_readSoul 113 = .ok (.iadd, 1) := by decide +kernel
theorem dX12_readSoul_114 : decode cX12_readSoul 114 = .ok (.if_icmp .ne 9, 3) := by decide +kernel
theorem dX12_readSoul_117 : decode cX12_readSoul 117 = .ok (.aload_n 0, 1) := by decide +kernel
theorem dX12_readSoul_118 : decode cX12_readSoul 118 = .ok (.iconst 3, 1) := by decide +kernel
theorem dX12_readSoul_119 : decode cX12_readSoul 119 = .ok (.invokevirtual 171, 3) := by decide +kernel
theorem dX12_readSoul_122 : decode cX12_readSoul 122 = .ok (.ireturn, 1) := by decide +kernel
theorem dX12_readSoul_123 : decode cX12_readSoul 123 = .ok (.iinc 2 1, 3) := by decide +kernel
theorem dX12_readSoul_126 : decode cX12_readSoul 126 = .ok (.goto (-32), 3) := by decide +kernel
theorem dX12_readSoul_129 : decode cX12_readSoul 129 = .ok (.aload_n 0, 1) := by decide +kernel
theorem dX12_readSoul_130 : decode cX12_readSoul 130 = .ok (.getfield 37, 3) := by decide +kernel
theorem dX12_readSoul_133 : decode cX12_readSoul 133 = .ok (.bipush 38, 2) := by decide +kernel
theorem dX12_readSoul_135 : decode cX12_readSoul 135 = .ok (.iload_n 1, 1) := by decide +kernel
theorem dX12_readSoul_136 : decode cX12_readSoul 136 = .ok (.iadd, 1) := by decide +kernel
theorem dX12_readSoul_137 : decode cX12_readSoul 137 = .ok (.aload_n 0, 1) := by decide +kernel
theorem dX12_readSoul_138 : decode cX12_readSoul 138 = .ok (.getfield 181, 3) := by decide +kernel
theorem dX12_readSoul_141 : decode cX12_readSoul 141 = .ok (.iconst 1, 1) := by decide +kernel
theorem dX12_readSoul_142 : decode cX12_readSoul 142 = .ok (.iadd, 1) := by decide +kernel
theorem dX12_readSoul_143 : decode cX12_readSoul 143 = .ok (.iastore, 1) := by decide +kernel
theorem dX12_readSoul_144 : decode cX12_readSoul 144 = .ok (.aload_n 0, 1) := by decide +kernel
theorem dX12_readSoul_145 : decode cX12_readSoul 145 = .ok (.invokevirtual 174, 3) := by decide +kernel
theorem dX12_readSoul_148 : decode cX12_readSoul 148 = .ok (.aload_n 0, 1) := by decide +kernel
theorem dX12_readSoul_149 : decode cX12_readSoul 149 = .ok (.getfield 37, 3) := by decide +kernel
theorem dX12_readSoul_152 : decode cX12_readSoul 152 = .ok (.iconst 1, 1) := by decide +kernel
theorem dX12_readSoul_153 : decode cX12_readSoul 153 = .ok (.dup2, 1) := by decide +kernel
theorem dX12_readSoul_154 : decode cX12_readSoul 154 = .ok (.iaload, 1) := by decide +kernel
theorem dX12_readSoul_155 : decode cX12_readSoul 155 = .ok (.iconst 1, 1) := by decide +kernel
theorem dX12_readSoul_156 : decode cX12_readSoul 156 = .ok (.iadd, 1) := by decide +kernel
theorem dX12_readSoul_157 : decode cX12_readSoul 157 = .ok (.iastore, 1) := by decide +kernel
theorem dX12_readSoul_158 : decode cX12_readSoul 158 = .ok (.iconst 1, 1) := by decide +kernel
theorem dX12_readSoul_159 : decode cX12_readSoul 159 = .ok (.ireturn, 1) := by decide +kernel
theorem dX12_sentence_0 : decode cX12_sentence 0 = .ok (.aload_n 0, 1) := by decide +kernel
theorem dX12_sentence_1 : decode cX12_sentence 1 = .ok (.iconst 0, 1) := by decide +kernel
theorem dX12_sentence_2 : decode cX12_sentence 2 = .ok (.putfield 1, 3) := by decide +kernel
theorem dX12_sentence_5 : decode cX12_sentence 5 = .ok (.aload_n 0, 1) := by decide +kernel
theorem dX12_sentence_6 : decode cX12_sentence 6 = .ok (.sipush 200, 3) := by decide +kernel
theorem dX12_sentence_9 : decode cX12_sentence 9 = .ok (.invokevirtual 218, 3) := by decide +kernel
theorem dX12_sentence_12 : decode cX12_sentence 12 = .ok (.aload_n 0, 1) := by decide +kernel
theorem dX12_sentence_13 : decode cX12_sentence 13 = .ok (.iconst 0, 1) := by decide +kernel
theorem dX12_sentence_14 : decode cX12_sentence 14 = .ok (.putfield 162, 3) := by decide +kernel
theorem dX12_sentence_17 : decode cX12_sentence 17 = .ok (.aload_n 0, 1) := by decide +kernel
theorem dX12_sentence_18 : decode cX12_sentence 18 = .ok (.iconst 0, 1) := by decide +kernel
theorem dX12_sentence_19 : decode cX12_sentence 19 = .ok (.putfield 418, 3) := by decide +kernel
theorem dX12_sentence_22 : decode cX12_sentence 22 = .ok (.aload_n 0, 1) := by decide +kernel
theorem dX12_sentence_23 : decode cX12_sentence 23 = .ok (.iconst 0, 1) := by decide +kernel
theorem dX12_sentence_24 : decode cX12_sentence 24 = .ok (.putfield 433, 3) := by decide +kernel
theorem dX12_sentence_27 : decode cX12_sentence 27 = .ok (.aload_n 0, 1) := by decide +kernel
theorem dX12_sentence_28 : decode cX12_sentence 28 = .ok (.iconst 0, 1) := by decide +kernel
theorem dX12_sentence_29 : decode cX12_sentence 29 = .ok (.putfield 421, 3) := by decide +kernel
theorem dX12_sentence_32 : decode cX12_sentence 32 = .ok (.aload_n 0, 1) := by decide +kernel
theorem dX12_sentence_33 : decode cX12_sentence 33 = .ok (.iconst 1, 1) := by decide +kernel
theorem dX12_sentence_34 : decode cX12_sentence 34 = .ok (.putfield 427, 3) := by decide +kernel
theorem dX12_sentence_37 : decode cX12_sentence 37 = .ok (.aload_n 0, 1) := by decide +kernel
theorem dX12_sentence_38 : decode cX12_sentence 38 = .ok (.iconst 0, 1) := by decide +kernel
