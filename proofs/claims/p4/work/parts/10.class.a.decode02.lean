theorem dX4_readDeed_194 : decode cX4_readDeed 194 = .ok (.invokevirtual 79, 3) := by decide +kernel
theorem dX4_readDeed_197 : decode cX4_readDeed 197 = .ok (.ifCond .eq 17, 3) := by decide +kernel
theorem dX4_readDeed_200 : decode cX4_readDeed 200 = .ok (.aload_n 0, 1) := by decide +kernel
theorem dX4_readDeed_201 : decode cX4_readDeed 201 = .ok (.getfield 21, 3) := by decide +kernel
theorem dX4_readDeed_204 : decode cX4_readDeed 204 = .ok (.invokevirtual 91, 3) := by decide +kernel
theorem dX4_readDeed_207 : decode cX4_readDeed 207 = .ok (.ifCond .eq 7, 3) := by decide +kernel
theorem dX4_readDeed_210 : decode cX4_readDeed 210 = .ok (.iconst 1, 1) := by decide +kernel
theorem dX4_readDeed_211 : decode cX4_readDeed 211 = .ok (.goto 4, 3) := by decide +kernel
theorem dX4_readDeed_215 : decode cX4_readDeed 215 = .ok (.ireturn, 1) := by decide +kernel
theorem dX4_readDeed_216 : decode cX4_readDeed 216 = .ok (.aload_n 0, 1) := by decide +kernel
theorem dX4_readDeed_217 : decode cX4_readDeed 217 = .ok (.getfield 21, 3) := by decide +kernel
theorem dX4_readDeed_220 : decode cX4_readDeed 220 = .ok (.ldc 103, 2) := by decide +kernel
theorem dX4_readDeed_222 : decode cX4_readDeed 222 = .ok (.invokevirtual 52, 3) := by decide +kernel
theorem dX4_readDeed_225 : decode cX4_readDeed 225 = .ok (.ifCond .eq 28, 3) := by decide +kernel
theorem dX4_readDeed_228 : decode cX4_readDeed 228 = .ok (.aload_n 0, 1) := by decide +kernel
theorem dX4_readDeed_229 : decode cX4_readDeed 229 = .ok (.bipush 7, 2) := by decide +kernel
theorem dX4_readDeed_231 : decode cX4_readDeed 231 = .ok (.invokevirtual 79, 3) := by decide +kernel
theorem dX4_readDeed_234 : decode cX4_readDeed 234 = .ok (.ifCond .eq 17, 3) := by decide +kernel
theorem dX4_readDeed_237 : decode cX4_readDeed 237 = .ok (.aload_n 0, 1) := by decide +kernel
theorem dX4_readDeed_238 : decode cX4_readDeed 238 = .ok (.getfield 21, 3) := by decide +kernel
theorem dX4_readDeed_241 : decode cX4_readDeed 241 = .ok (.invokevirtual 91, 3) := by decide +kernel
theorem dX4_readDeed_244 : decode cX4_readDeed 244 = .ok (.ifCond .eq 7, 3) := by decide +kernel
theorem dX4_readDeed_247 : decode cX4_readDeed 247 = .ok (.iconst 1, 1) := by decide +kernel
theorem dX4_readDeed_248 : decode cX4_readDeed 248 = .ok (.goto 4, 3) := by decide +kernel
theorem dX4_readDeed_252 : decode cX4_readDeed 252 = .ok (.ireturn, 1) := by decide +kernel
theorem dX4_readDeed_253 : decode cX4_readDeed 253 = .ok (.aload_n 0, 1) := by decide +kernel
theorem dX4_readDeed_254 : decode cX4_readDeed 254 = .ok (.getfield 21, 3) := by decide +kernel
theorem dX4_readDeed_257 : decode cX4_readDeed 257 = .ok (.ldc 105, 2) := by decide +kernel
theorem dX4_readDeed_259 : decode cX4_readDeed 259 = .ok (.invokevirtual 52, 3) := by decide +kernel
theorem dX4_readDeed_262 : decode cX4_readDeed 262 = .ok (.ifCond .eq 27, 3) := by decide +kernel
theorem dX4_readDeed_265 : decode cX4_readDeed 265 = .ok (.aload_n 0, 1) := by decide +kernel
theorem dX4_readDeed_266 : decode cX4_readDeed 266 = .ok (.iconst 4, 1) := by decide +kernel
theorem dX4_readDeed_267 : decode cX4_readDeed 267 = .ok (.invokevirtual 79, 3) := by decide +kernel
theorem dX4_readDeed_270 : decode cX4_readDeed 270 = .ok (.ifCond .eq 17, 3) := by decide +kernel
theorem dX4_readDeed_273 : decode cX4_readDeed 273 = .ok (.aload_n 0, 1) := by decide +kernel
theorem dX4_readDeed_274 : decode cX4_readDeed 274 = .ok (.getfield 21, 3) := by decide +kernel
theorem dX4_readDeed_277 : decode cX4_readDeed 277 = .ok (.invokevirtual 91, 3) := by decide +kernel
theorem dX4_readDeed_280 : decode cX4_readDeed 280 = .ok (.ifCond .eq 7, 3) := by decide +kernel
theorem dX4_readDeed_283 : decode cX4_readDeed 283 = .ok (.iconst 1, 1) := by decide +kernel
theorem dX4_readDeed_284 : decode cX4_readDeed 284 = .ok (.goto 4, 3) := by decide +kernel
theorem dX4_readDeed_288 : decode cX4_readDeed 288 = .ok (.ireturn, 1) := by decide +kernel
theorem dX4_readDeed_289 : decode cX4_readDeed 289 = .ok (.aload_n 0, 1) := by decide +kernel
theorem dX4_readDeed_290 : decode cX4_readDeed 290 = .ok (.getfield 21, 3) := by decide +kernel
theorem dX4_readDeed_293 : decode cX4_readDeed 293 = .ok (.ldc 107, 2) := by decide +kernel
theorem dX4_readDeed_295 : decode cX4_readDeed 295 = .ok (.invokevirtual 52, 3) := by decide +kernel
theorem dX4_readDeed_298 : decode cX4_readDeed 298 = .ok (.ifCond .eq 40, 3) := by decide +kernel
theorem dX4_readDeed_301 : decode cX4_readDeed 301 = .ok (.aload_n 0, 1) := by decide +kernel
theorem dX4_readDeed_302 : decode cX4_readDeed 302 = .ok (.iconst 5, 1) := by decide +kernel
theorem dX4_readDeed_303 : decode cX4_readDeed 303 = .ok (.invokevirtual 79, 3) := by decide +kernel
theorem dX4_readDeed_306 : decode cX4_readDeed 306 = .ok (.ifCond .eq 30, 3) := by decide +kernel
theorem dX4_readDeed_309 : decode cX4_readDeed 309 = .ok (.aload_n 0, 1) := by decide +kernel
theorem dX4_readDeed_310 : decode cX4_readDeed 310 = .ok (.getfield 21, 3) := by decide +kernel
theorem dX4_readDeed_313 : decode cX4_readDeed 313 = .ok (.invokevirtual 91, 3) := by decide +kernel
theorem dX4_readDeed_316 : decode cX4_readDeed 316 = .ok (.ifCond .eq 20, 3) := by decide +kernel
theorem dX4_readDeed_319 : decode cX4_readDeed 319 = .ok (.aload_n 0, 1) := by decide +kernel
theorem dX4_readDeed_320 : decode cX4_readDeed 320 = .ok (.getfield 21, 3) := by decide +kernel
theorem dX4_readDeed_323 : decode cX4_readDeed 323 = .ok (.iconst 1, 1) := by decide +kernel
theorem dX4_readDeed_324 : decode cX4_readDeed 324 = .ok (.bipush 99, 2) := by decide +kernel
theorem dX4_readDeed_326 : decode cX4_readDeed 326 = .ok (.invokevirtual 82, 3) := by decide +kernel
theorem dX4_readDeed_329 : decode cX4_readDeed 329 = .ok (.ifCond .eq 7, 3) := by decide +kernel
theorem dX4_readDeed_332 : decode cX4_readDeed 332 = .ok (.iconst 1, 1) := by decide +kernel
theorem dX4_readDeed_333 : decode cX4_readDeed 333 = .ok (.goto 4, 3) := by decide +kernel
theorem dX4_readDeed_336 : decode cX4_readDeed 336 = .ok (.iconst 0, 1) := by decide +kernel
theorem dX4_readDeed_337 : decode cX4_readDeed 337 = .ok (.ireturn, 1) := by decide +kernel
theorem dX4_readDeed_338 : decode cX4_readDeed 338 = .ok (.aload_n 0, 1) := by decide +kernel
theorem dX4_readDeed_339 : decode cX4_readDeed 339 = .ok (.getfield 21, 3) := by decide +kernel
theorem dX4_readDeed_342 : decode cX4_readDeed 342 = .ok (.iconst 1, 1) := by decide +kernel
theorem dX4_readDeed_343 : decode cX4_readDeed 343 = .ok (.invokevirtual 70, 3) := by decide +kernel
theorem dX4_readDeed_346 : decode cX4_readDeed 346 = .ok (.ireturn, 1) := by decide +kernel
theorem dX5_addStep_0 : decode cX5_addStep 0 = .ok (.aload_n 0, 1) := by decide +kernel
theorem dX5_addStep_1 : decode cX5_addStep 1 = .ok (.getfield 32, 3) := by decide +kernel
theorem dX5_addStep_4 : decode cX5_addStep 4 = .ok (.bipush 40, 2) := by decide +kernel
theorem dX5_addStep_6 : decode cX5_addStep 6 = .ok (.if_icmp .lt 12, 3) := by decide +kernel
theorem dX5_addStep_9 : decode cX5_addStep 9 = .ok (.aload_n 0, 1) := by decide +kernel
theorem dX5_addStep_10 : decode cX5_addStep 10 = .ok (.getfield 24, 3) := by decide +kernel
theorem dX5_addStep_13 : decode cX5_addStep 13 = .ok (.iconst 4, 1) := by decide +kernel
theorem dX5_addStep_14 : decode cX5_addStep 14 = .ok (.invokevirtual 56, 3) := by decide +kernel
theorem dX5_addStep_17 : decode cX5_addStep 17 = .ok (.ireturn, 1) := by decide +kernel
theorem dX5_addStep_18 : decode cX5_addStep 18 = .ok (.aload_n 0, 1) := by decide +kernel
theorem dX5_addStep_19 : decode cX5_addStep 19 = .ok (.getfield 11, 3) := by decide +kernel
theorem dX5_addStep_22 : decode cX5_addStep 22 = .ok (.aload_n 0, 1) := by decide +kernel
theorem dX5_addStep_23 : decode cX5_addStep 23 = .ok (.getfield 32, 3) := by decide +kernel
theorem dX5_addStep_26 : decode cX5_addStep 26 = .ok (.iload_n 1, 1) := by decide +kernel
theorem dX5_addStep_27 : decode cX5_addStep 27 = .ok (.iastore, 1) := by decide +kernel
theorem dX5_addStep_28 : decode cX5_addStep 28 = .ok (.aload_n 0, 1) := by decide +kernel
theorem dX5_addStep_29 : decode cX5_addStep 29 = .ok (.getfield 15, 3) := by decide +kernel
theorem dX5_addStep_32 : decode cX5_addStep 32 = .ok (.aload_n 0, 1) := by decide +kernel
theorem dX5_addStep_33 : decode cX5_addStep 33 = .ok (.getfield 32, 3) := by decide +kernel
theorem dX5_addStep_36 : decode cX5_addStep 36 = .ok (.iload_n 2, 1) := by decide +kernel
theorem dX5_addStep_37 : decode cX5_addStep 37 = .ok (.iastore, 1) := by decide +kernel
theorem dX5_addStep_38 : decode cX5_addStep 38 = .ok (.aload_n 0, 1) := by decide +kernel
theorem dX5_addStep_39 : decode cX5_addStep 39 = .ok (.getfield 18, 3) := by decide +kernel
theorem dX5_addStep_42 : decode cX5_addStep 42 = .ok (.aload_n 0, 1) := by decide +kernel
theorem dX5_addStep_43 : decode cX5_addStep 43 = .ok (.getfield 32, 3) := by decide +kernel
theorem dX5_addStep_46 : decode cX5_addStep 46 = .ok (.iload_n 3, 1) := by decide +kernel
theorem dX5_addStep_47 : decode cX5_addStep 47 = .ok (.iastore, 1) := by decide +kernel
theorem dX5_addStep_48 : decode cX5_addStep 48 = .ok (.aload_n 0, 1) := by decide +kernel
theorem dX5_addStep_49 : decode cX5_addStep 49 = .ok (.dup, 1) := by decide +kernel
theorem dX5_addStep_50 : decode cX5_addStep 50 = .ok (.getfield 32, 3) := by decide +kernel
theorem dX5_addStep_53 : decode cX5_addStep 53 = .ok (.iconst 1, 1) := by decide +kernel
theorem dX5_addStep_54 : decode cX5_addStep 54 = .ok (.iadd, 1) := by decide +kernel
theorem dX5_addStep_55 : decode cX5_addStep 55 = .ok (.putfield 32, 3) := by decide +kernel
theorem dX5_addStep_58 : decode cX5_addStep 58 = .ok (.iconst 1, 1) := by decide +kernel
theorem dX5_addStep_59 : decode cX5_addStep 59 = .ok (.ireturn, 1) := by decide +kernel
theorem dX5_leafAhead_0 : decode cX5_leafAhead 0 = .ok (.aload_n 0, 1) := by decide +kernel
theorem dX5_leafAhead_1 : decode cX5_leafAhead 1 = .ok (.getfield 24, 3) := by decide +kernel
theorem dX5_leafAhead_4 : decode cX5_leafAhead 4 = .ok (.ldc 96, 2) := by decide +kernel
theorem dX5_leafAhead_6 : decode cX5_leafAhead 6 = .ok (.invokevirtual 64, 3) := by decide +kernel
theorem dX5_leafAhead_9 : decode cX5_leafAhead 9 = .ok (.ifCond .eq 5, 3) := by decide +kernel
theorem dX5_leafAhead_12 : decode cX5_leafAhead 12 = .ok (.iconst 3, 1) := by decide +kernel
theorem dX5_leafAhead_13 : decode cX5_leafAhead 13 = .ok (.ireturn, 1) := by decide +kernel
theorem dX5_leafAhead_14 : decode cX5_leafAhead 14 = .ok (.aload_n 0, 1) := by decide +kernel
theorem dX5_leafAhead_15 : decode cX5_leafAhead 15 = .ok (.getfield 24, 3) := by decide +kernel
theorem dX5_leafAhead_18 : decode cX5_leafAhead 18 = .ok (.ldc 98, 2) := by decide +kernel
theorem dX5_leafAhead_20 : decode cX5_leafAhead 20 = .ok (.invokevirtual 64, 3) := by decide +kernel
theorem dX5_leafAhead_23 : decode cX5_leafAhead 23 = .ok (.ifCond .eq 5, 3) := by decide +kernel
theorem dX5_leafAhead_26 : decode cX5_leafAhead 26 = .ok (.iconst 4, 1) := by decide +kernel
theorem dX5_leafAhead_27 : decode cX5_leafAhead 27 = .ok (.ireturn, 1) := by decide +kernel
theorem dX5_leafAhead_28 : decode cX5_leafAhead 28 = .ok (.aload_n 0, 1) := by decide +kernel
theorem dX5_leafAhead_29 : decode cX5_leafAhead 29 = .ok (.getfield 24, 3) := by decide +kernel
theorem dX5_leafAhead_32 : decode cX5_leafAhead 32 = .ok (.ldc 100, 2) := by decide +kernel
theorem dX5_leafAhead_34 : decode cX5_leafAhead 34 = .ok (.invokevirtual 64, 3) := by decide +kernel
theorem dX5_leafAhead_37 : decode cX5_leafAhead 37 = .ok (.ifCond .eq 5, 3) := by decide +kernel
theorem dX5_leafAhead_40 : decode cX5_leafAhead 40 = .ok (.iconst 5, 1) := by decide +kernel
theorem dX5_leafAhead_41 : decode cX5_leafAhead 41 = .ok (.ireturn, 1) := by decide +kernel
theorem dX5_leafAhead_42 : decode cX5_leafAhead 42 = .ok (.aload_n 0, 1) := by decide +kernel
theorem dX5_leafAhead_43 : decode cX5_leafAhead 43 = .ok (.getfield 24, 3) := by decide +kernel
theorem dX5_leafAhead_46 : decode cX5_leafAhead 46 = .ok (.ldc 102, 2) := by decide +kernel
theorem dX5_leafAhead_48 : decode cX5_leafAhead 48 = .ok (.invokevirtual 64, 3) := by decide +kernel
theorem dX5_leafAhead_51 : decode cX5_leafAhead 51 = .ok (.ifCond .eq 6, 3) := by decide +kernel
theorem dX5_leafAhead_54 : decode cX5_leafAhead 54 = .ok (.bipush 6, 2) := by decide +kernel
theorem dX5_leafAhead_56 : decode cX5_leafAhead 56 = .ok (.ireturn, 1) := by decide +kernel
theorem dX5_leafAhead_57 : decode cX5_leafAhead 57 = .ok (.aload_n 0, 1) := by decide +kernel
theorem dX5_leafAhead_58 : decode cX5_leafAhead 58 = .ok (.getfield 24, 3) := by decide +kernel
theorem dX5_leafAhead_61 : decode cX5_leafAhead 61 = .ok (.ldc 104, 2) := by decide +kernel
theorem dX5_leafAhead_63 : decode cX5_leafAhead 63 = .ok (.invokevirtual 64, 3) := by decide +kernel
theorem dX5_leafAhead_66 : decode cX5_leafAhead 66 = .ok (.ifCond .eq 6, 3) := by decide +kernel
theorem dX5_leafAhead_69 : decode cX5_leafAhead 69 = .ok (.bipush 7, 2) := by decide +kernel
theorem dX5_leafAhead_71 : decode cX5_leafAhead 71 = .ok (.ireturn, 1) := by decide +kernel
theorem dX5_leafAhead_72 : decode cX5_leafAhead 72 = .ok (.aload_n 0, 1) := by decide +kernel
theorem dX5_leafAhead_73 : decode cX5_leafAhead 73 = .ok (.getfield 24, 3) := by decide +kernel
theorem dX5_leafAhead_76 : decode cX5_leafAhead 76 = .ok (.ldc 106, 2) := by decide +kernel
theorem dX5_leafAhead_78 : decode cX5_leafAhead 78 = .ok (.invokevirtual 64, 3) := by decide +kernel
theorem dX5_leafAhead_81 : decode cX5_leafAhead 81 = .ok (.ifCond .eq 6, 3) := by decide +kernel
theorem dX5_leafAhead_84 : decode cX5_leafAhead 84 = .ok (.bipush 8, 2) := by decide +kernel
theorem dX5_leafAhead_86 : decode cX5_leafAhead 86 = .ok (.ireturn, 1) := by decide +kernel
theorem dX5_leafAhead_87 : decode cX5_leafAhead 87 = .ok (.aload_n 0, 1) := by decide +kernel
theorem dX5_leafAhead_88 : decode cX5_leafAhead 88 = .ok (.getfield 24, 3) := by decide +kernel
theorem dX5_leafAhead_91 : decode cX5_leafAhead 91 = .ok (.ldc 108, 2) := by decide +kernel
theorem dX5_leafAhead_93 : decode cX5_leafAhead 93 = .ok (.invokevirtual 64, 3) := by decide +kernel
theorem dX5_leafAhead_96 : decode cX5_leafAhead 96 = .ok (.ifCond .eq 6, 3) := by decide +kernel
theorem dX5_leafAhead_99 : decode cX5_leafAhead 99 = .ok (.bipush 9, 2) := by decide +kernel
theorem dX5_leafAhead_101 : decode cX5_leafAhead 101 = .ok (.ireturn, 1) := by decide +kernel
theorem dX5_leafAhead_102 : decode cX5_leafAhead 102 = .ok (.aload_n 0, 1) := by decide +kernel
theorem dX5_leafAhead_103 : decode cX5_leafAhead 103 = .ok (.getfield 24, 3) := by decide +kernel
theorem dX5_leafAhead_106 : decode cX5_leafAhead 106 = .ok (.ldc 110, 2) := by decide +kernel
theorem dX5_leafAhead_108 : decode cX5_leafAhead 108 = .ok (.invokevirtual 64, 3) := by decide +kernel
theorem dX5_leafAhead_111 : decode cX5_leafAhead 111 = .ok (.ifCond .eq 6, 3) := by decide +kernel
theorem dX5_leafAhead_114 : decode cX5_leafAhead 114 = .ok (.bipush 10, 2) := by decide +kernel
theorem dX5_leafAhead_116 : decode cX5_leafAhead 116 = .ok (.ireturn, 1) := by decide +kernel
theorem dX5_leafAhead_117 : decode cX5_leafAhead 117 = .ok (.aload_n 0, 1) := by decide +kernel
theorem dX5_leafAhead_118 : decode cX5_leafAhead 118 = .ok (.getfield 24, 3) := by decide +kernel
theorem dX5_leafAhead_121 : decode cX5_leafAhead 121 = .ok (.ldc 112, 2) := by decide +kernel
theorem dX5_leafAhead_123 : decode cX5_leafAhead 123 = .ok (.invokevirtual 64, 3) := by decide +kernel
theorem dX5_leafAhead_126 : decode cX5_leafAhead 126 = .ok (.ifCond .eq 8, 3) := by decide +kernel
theorem dX5_leafAhead_129 : decode cX5_leafAhead 129 = .ok (.bipush 11, 2) := by decide +kernel
theorem dX5_leafAhead_131 : decode cX5_leafAhead 131 = .ok (.goto 4, 3) := by decide +kernel
theorem dX5_leafAhead_134 : decode cX5_leafAhead 134 = .ok (.iconst (-1), 1) := by decide +kernel
theorem dX5_leafAhead_135 : decode cX5_leafAhead 135 = .ok (.ireturn, 1) := by decide +kernel
theorem dX6_advance_0 : decode cX6_advance 0 = .ok (.aload_n 0, 1) := by decide +kernel
theorem dX6_advance_1 : decode cX6_advance 1 = .ok (.getfield 48, 3) := by decide +kernel
theorem dX6_advance_4 : decode cX6_advance 4 = .ok (.aload_n 0, 1) := by decide +kernel
theorem dX6_advance_5 : decode cX6_advance 5 = .ok (.getfield 43, 3) := by decide +kernel
theorem dX6_advance_8 : decode cX6_advance 8 = .ok (.if_icmp .ge 44, 3) := by decide +kernel
theorem dX6_advance_11 : decode cX6_advance 11 = .ok (.aload_n 0, 1) := by decide +kernel
theorem dX6_advance_12 : decode cX6_advance 12 = .ok (.getfield 11, 3) := by decide +kernel
theorem dX6_advance_15 : decode cX6_advance 15 = .ok (.aload_n 0, 1) := by decide +kernel
theorem dX6_advance_16 : decode cX6_advance 16 = .ok (.getfield 48, 3) := by decide +kernel
theorem dX6_advance_19 : decode cX6_advance 19 = .ok (.baload, 1) := by decide +kernel
theorem dX6_advance_20 : decode cX6_advance 20 = .ok (.bipush 32, 2) := by decide +kernel
theorem dX6_advance_22 : decode cX6_advance 22 = .ok (.if_icmp .eq 17, 3) := by decide +kernel
theorem dX6_advance_25 : decode cX6_advance 25 = .ok (.aload_n 0, 1) := by decide +kernel
theorem dX6_advance_26 : decode cX6_advance 26 = .ok (.getfield 11, 3) := by decide +kernel
theorem dX6_advance_29 : decode cX6_advance 29 = .ok (.aload_n 0, 1) := by decide +kernel
theorem dX6_advance_30 : decode cX6_advance 30 = .ok (.getfield 48, 3) := by decide +kernel
theorem dX6_advance_33 : decode cX6_advance 33 = .ok (.baload, 1) := by decide +kernel
theorem dX6_advance_34 : decode cX6_advance 34 = .ok (.bipush 10, 2) := by decide +kernel
theorem dX6_advance_36 : decode cX6_advance 36 = .ok (.if_icmp .ne 16, 3) := by decide +kernel
theorem dX6_advance_39 : decode cX6_advance 39 = .ok (.aload_n 0, 1) := by decide +kernel
theorem dX6_advance_40 : decode cX6_advance 40 = .ok (.dup, 1) := by decide +kernel
theorem dX6_advance_41 : decode cX6_advance 41 = .ok (.getfield 48, 3) := by decide +kernel
theorem dX6_advance_44 : decode cX6_advance 44 = .ok (.iconst 1, 1) := by decide +kernel
theorem dX6_advance_45 : decode cX6_advance 45 = .ok (.iadd, 1) := by decide +kernel
theorem dX6_advance_46 : decode cX6_advance 46 = .ok (.putfield 48, 3) := by decide +kernel
theorem dX6_advance_49 : decode cX6_advance 49 = .ok (.goto (-49), 3) := by decide +kernel
theorem dX6_advance_52 : decode cX6_advance 52 = .ok (.aload_n 0, 1) := by decide +kernel
theorem dX6_advance_53 : decode cX6_advance 53 = .ok (.getfield 48, 3) := by decide +kernel
theorem dX6_advance_56 : decode cX6_advance 56 = .ok (.aload_n 0, 1) := by decide +kernel
theorem dX6_advance_57 : decode cX6_advance 57 = .ok (.getfield 43, 3) := by decide +kernel
theorem dX6_advance_60 : decode cX6_advance 60 = .ok (.if_icmp .ge 14, 3) := by decide +kernel
theorem dX6_advance_63 : decode cX6_advance 63 = .ok (.aload_n 0, 1) := by decide +kernel
theorem dX6_advance_64 : decode cX6_advance 64 = .ok (.getfield 48, 3) := by decide +kernel
theorem dX6_advance_67 : decode cX6_advance 67 = .ok (.aload_n 0, 1) := by decide +kernel
theorem dX6_advance_68 : decode cX6_advance 68 = .ok (.getfield 45, 3) := by decide +kernel
theorem dX6_advance_71 : decode cX6_advance 71 = .ok (.if_icmp .lt 50, 3) := by decide +kernel
theorem dX6_advance_74 : decode cX6_advance 74 = .ok (.aload_n 0, 1) := by decide +kernel
theorem dX6_advance_75 : decode cX6_advance 75 = .ok (.aload_n 0, 1) := by decide +kernel
theorem dX6_advance_76 : decode cX6_advance 76 = .ok (.getfield 43, 3) := by decide +kernel
theorem dX6_advance_79 : decode cX6_advance 79 = .ok (.aload_n 0, 1) := by decide +kernel
theorem dX6_advance_80 : decode cX6_advance 80 = .ok (.getfield 45, 3) := by decide +kernel
theorem dX6_advance_83 : decode cX6_advance 83 = .ok (.if_icmp .le 7, 3) := by decide +kernel
theorem dX6_advance_86 : decode cX6_advance 86 = .ok (.iconst 4, 1) := by decide +kernel
theorem dX6_advance_87 : decode cX6_advance 87 = .ok (.goto 4, 3) := by decide +kernel
theorem dX6_advance_90 : decode cX6_advance 90 = .ok (.iconst 0, 1) := by decide +kernel
theorem dX6_advance_91 : decode cX6_advance 91 = .ok (.putfield 60, 3) := by decide +kernel
theorem dX6_advance_94 : decode cX6_advance 94 = .ok (.aload_n 0, 1) := by decide +kernel
theorem dX6_advance_95 : decode cX6_advance 95 = .ok (.aload_n 0, 1) := by decide +kernel
theorem dX6_advance_96 : decode cX6_advance 96 = .ok (.getfield 43, 3) := by decide +kernel
theorem dX6_advance_99 : decode cX6_advance 99 = .ok (.aload_n 0, 1) := by decide +kernel
theorem dX6_advance_100 : decode cX6_advance 100 = .ok (.getfield 45, 3) := by decide +kernel
theorem dX6_advance_103 : decode cX6_advance 103 = .ok (.if_icmp .le 10, 3) := by decide +kernel
theorem dX6_advance_106 : decode cX6_advance 106 = .ok (.aload_n 0, 1) := by decide +kernel
theorem dX6_advance_107 : decode cX6_advance 107 = .ok (.getfield 45, 3) := by decide +kernel
theorem dX6_advance_110 : decode cX6_advance 110 = .ok (.goto 7, 3) := by decide +kernel
theorem dX6_advance_113 : decode cX6_advance 113 = .ok (.aload_n 0, 1) := by decide +kernel
theorem dX6_advance_114 : decode cX6_advance 114 = .ok (.getfield 43, 3) := by decide +kernel
theorem dX6_advance_117 : decode cX6_advance 117 = .ok (.putfield 63, 3) := by decide +kernel
theorem dX6_advance_120 : decode cX6_advance 120 = .ok (.return_, 1) := by decide +kernel
theorem dX6_advance_121 : decode cX6_advance 121 = .ok (.aload_n 0, 1) := by decide +kernel
theorem dX6_advance_122 : decode cX6_advance 122 = .ok (.aload_n 0, 1) := by decide +kernel
theorem dX6_advance_123 : decode cX6_advance 123 = .ok (.getfield 48, 3) := by decide +kernel
theorem dX6_advance_126 : decode cX6_advance 126 = .ok (.putfield 63, 3) := by decide +kernel
theorem dX6_advance_129 : decode cX6_advance 129 = .ok (.aload_n 0, 1) := by decide +kernel
theorem dX6_advance_130 : decode cX6_advance 130 = .ok (.aload_n 0, 1) := by decide +kernel
theorem dX6_advance_131 : decode cX6_advance 131 = .ok (.getfield 11, 3) := by decide +kernel
theorem dX6_advance_134 : decode cX6_advance 134 = .ok (.aload_n 0, 1) := by decide +kernel
theorem dX6_advance_135 : decode cX6_advance 135 = .ok (.getfield 48, 3) := by decide +kernel
theorem dX6_advance_138 : decode cX6_advance 138 = .ok (.baload, 1) := by decide +kernel
theorem dX6_advance_139 : decode cX6_advance 139 = .ok (.putfield 66, 3) := by decide +kernel
theorem dX6_advance_142 : decode cX6_advance 142 = .ok (.aload_n 0, 1) := by decide +kernel
theorem dX6_advance_143 : decode cX6_advance 143 = .ok (.lconst 0, 1) := by decide +kernel
theorem dX6_advance_144 : decode cX6_advance 144 = .ok (.putfield 69, 3) := by decide +kernel
theorem dX6_advance_147 : decode cX6_advance 147 = .ok (.aload_n 0, 1) := by decide +kernel
theorem dX6_advance_148 : decode cX6_advance 148 = .ok (.iconst 0, 1) := by decide +kernel
theorem dX6_advance_149 : decode cX6_advance 149 = .ok (.putfield 73, 3) := by decide +kernel
theorem dX6_advance_152 : decode cX6_advance 152 = .ok (.iconst 0, 1) := by decide +kernel
theorem dX6_advance_153 : decode cX6_advance 153 = .ok (.istore_n 1, 1) := by decide +kernel
theorem dX6_advance_154 : decode cX6_advance 154 = .ok (.iconst 0, 1) := by decide +kernel
theorem dX6_advance_155 : decode cX6_advance 155 = .ok (.istore_n 2, 1) := by decide +kernel
theorem dX6_advance_156 : decode cX6_advance 156 = .ok (.aload_n 0, 1) := by decide +kernel
theorem dX6_advance_157 : decode cX6_advance 157 = .ok (.getfield 48, 3) := by decide +kernel
theorem dX6_advance_160 : decode cX6_advance 160 = .ok (.aload_n 0, 1) := by decide +kernel
theorem dX6_advance_161 : decode cX6_advance 161 = .ok (.getfield 43, 3) := by decide +kernel
theorem dX6_advance_164 : decode cX6_advance 164 = .ok (.if_icmp .ge 89, 3) := by decide +kernel
theorem dX6_advance_167 : decode cX6_advance 167 = .ok (.aload_n 0, 1) := by decide +kernel
theorem dX6_advance_168 : decode cX6_advance 168 = .ok (.getfield 11, 3) := by decide +kernel
theorem dX6_advance_171 : decode cX6_advance 171 = .ok (.aload_n 0, 1) := by decide +kernel
theorem dX6_advance_172 : decode cX6_advance 172 = .ok (.getfield 48, 3) := by decide +kernel
theorem dX6_advance_175 : decode cX6_advance 175 = .ok (.baload, 1) := by decide +kernel
theorem dX6_advance_176 : decode cX6_advance 176 = .ok (.istore_n 3, 1) := by decide +kernel
theorem dX6_advance_177 : decode cX6_advance 177 = .ok (.iload_n 3, 1) := by decide +kernel
theorem dX6_advance_178 : decode cX6_advance 178 = .ok (.bipush 97, 2) := by decide +kernel
theorem dX6_advance_180 : decode cX6_advance 180 = .ok (.if_icmp .lt 29, 3) := by decide +kernel
theorem dX6_advance_183 : decode cX6_advance 183 = .ok (.iload_n 3, 1) := by decide +kernel
theorem dX6_advance_184 : decode cX6_advance 184 = .ok (.bipush 122, 2) := by decide +kernel
theorem dX6_advance_186 : decode cX6_advance 186 = .ok (.if_icmp .gt 23, 3) := by decide +kernel
theorem dX6_advance_189 : decode cX6_advance 189 = .ok (.iinc 1 1, 3) := by decide +kernel
theorem dX6_advance_192 : decode cX6_advance 192 = .ok (.aload_n 0, 1) := by decide +kernel
theorem dX6_advance_193 : decode cX6_advance 193 = .ok (.aload_n 0, 1) := by decide +kernel
theorem dX6_advance_194 : decode cX6_advance 194 = .ok (.getfield 69, 3) := by decide +kernel
theorem dX6_advance_197 : decode cX6_advance 197 = .ok (.bipush 8, 2) := by decide +kernel
theorem dX6_advance_199 : decode cX6_advance 199 = .ok (.lshl, 1) := by decide +kernel
theorem dX6_advance_200 : decode cX6_advance 200 = .ok (.iload_n 3, 1) := by decide +kernel
theorem dX6_advance_201 : decode cX6_advance 201 = .ok (.i2l, 1) := by decide +kernel
theorem dX6_advance_202 : decode cX6_advance 202 = .ok (.lor, 1) := by decide +kernel
theorem dX6_advance_203 : decode cX6_advance 203 = .ok (.putfield 69, 3) := by decide +kernel
theorem dX6_advance_206 : decode cX6_advance 206 = .ok (.goto 34, 3) := by decide +kernel
theorem dX6_advance_209 : decode cX6_advance 209 = .ok (.iload_n 3, 1) := by decide +kernel
theorem dX6_advance_210 : decode cX6_advance 210 = .ok (.bipush 48, 2) := by decide +kernel
theorem dX6_advance_212 : decode cX6_advance 212 = .ok (.if_icmp .lt 41, 3) := by decide +kernel
theorem dX6_advance_215 : decode cX6_advance 215 = .ok (.iload_n 3, 1) := by decide +kernel
theorem dX6_advance_216 : decode cX6_advance 216 = .ok (.bipush 57, 2) := by decide +kernel
theorem dX6_advance_218 : decode cX6_advance 218 = .ok (.if_icmp .gt 35, 3) := by decide +kernel
theorem dX6_advance_221 : decode cX6_advance 221 = .ok (.iinc 2 1, 3) := by decide +kernel
theorem dX6_advance_224 : decode cX6_advance 224 = .ok (.aload_n 0, 1) := by decide +kernel
theorem dX6_advance_225 : decode cX6_advance 225 = .ok (.aload_n 0, 1) := by decide +kernel
theorem dX6_advance_226 : decode cX6_advance 226 = .ok (.getfield 73, 3) := by decide +kernel
theorem dX6_advance_229 : decode cX6_advance 229 = .ok (.bipush 10, 2) := by decide +kernel
theorem dX6_advance_231 : decode cX6_advance 231 = .ok (.imul, 1) := by decide +kernel
theorem dX6_advance_232 : decode cX6_advance 232 = .ok (.iload_n 3, 1) := by decide +kernel
theorem dX6_advance_233 : decode cX6_advance 233 = .ok (.iadd, 1) := by decide +kernel
theorem dX6_advance_234 : decode cX6_advance 234 = .ok (.bipush 48, 2) := by decide +kernel
theorem dX6_advance_236 : decode cX6_advance 236 = .ok (.isub, 1) := by decide +kernel
theorem dX6_advance_237 : decode cX6_advance 237 = .ok (.putfield 73, 3) := by decide +kernel
theorem dX6_advance_240 : decode cX6_advance 240 = .ok (.aload_n 0, 1) := by decide +kernel
theorem dX6_advance_241 : decode cX6_advance 241 = .ok (.dup, 1) := by decide +kernel
theorem dX6_advance_242 : decode cX6_advance 242 = .ok (.getfield 48, 3) := by decide +kernel
theorem dX6_advance_245 : decode cX6_advance 245 = .ok (.iconst 1, 1) := by decide +kernel
theorem dX6_advance_246 : decode cX6_advance 246 = .ok (.iadd, 1) := by decide +kernel
theorem dX6_advance_247 : decode cX6_advance 247 = .ok (.putfield 48, 3) := by decide +kernel
theorem dX6_advance_250 : decode cX6_advance 250 = .ok (.goto (-94), 3) := by decide +kernel
theorem dX6_advance_253 : decode cX6_advance 253 = .ok (.iload_n 1, 1) := by decide +kernel
theorem dX6_advance_254 : decode cX6_advance 254 = .ok (.iload_n 2, 1) := by decide +kernel
theorem dX6_advance_255 : decode cX6_advance 255 = .ok (.iadd, 1) := by decide +kernel
theorem dX6_advance_256 : decode cX6_advance 256 = .ok (.ifCond .ne 70, 3) := by decide +kernel
theorem dX6_advance_259 : decode cX6_advance 259 = .ok (.aload_n 0, 1) := by decide +kernel
theorem dX6_advance_260 : decode cX6_advance 260 = .ok (.dup, 1) := by decide +kernel
theorem dX6_advance_261 : decode cX6_advance 261 = .ok (.getfield 48, 3) := by decide +kernel
theorem dX6_advance_264 : decode cX6_advance 264 = .ok (.iconst 1, 1) := by decide +kernel
theorem dX6_advance_265 : decode cX6_advance 265 = .ok (.iadd, 1) := by decide +kernel
theorem dX6_advance_266 : decode cX6_advance 266 = .ok (.putfield 48, 3) := by decide +kernel
theorem dX6_advance_269 : decode cX6_advance 269 = .ok (.aload_n 0, 1) := by decide +kernel
theorem dX6_advance_270 : decode cX6_advance 270 = .ok (.aload_n 0, 1) := by decide +kernel
theorem dX6_advance_271 : decode cX6_advance 271 = .ok (.getfield 66, 3) := by decide +kernel
theorem dX6_advance_274 : decode cX6_advance 274 = .ok (.bipush 59, 2) := by decide +kernel
theorem dX6_advance_276 : decode cX6_advance 276 = .ok (.if_icmp .eq 39, 3) := by decide +kernel
theorem dX6_advance_279 : decode cX6_advance 279 = .ok (.aload_n 0, 1) := by decide +kernel
theorem dX6_advance_280 : decode cX6_advance 280 = .ok (.getfield 66, 3) := by decide +kernel
theorem dX6_advance_283 : decode cX6_advance 283 = .ok (.bipush 40, 2) := by decide +kernel
theorem dX6_advance_285 : decode cX6_advance 285 = .ok (.if_icmp .eq 30, 3) := by decide +kernel
theorem dX6_advance_288 : decode cX6_advance 288 = .ok (.aload_n 0, 1) := by decide +kernel
theorem dX6_advance_289 : decode cX6_advance 289 = .ok (.getfield 66, 3) := by decide +kernel
theorem dX6_advance_292 : decode cX6_advance 292 = .ok (.bipush 41, 2) := by decide +kernel
theorem dX6_advance_294 : decode cX6_advance 294 = .ok (.if_icmp .eq 21, 3) := by decide +kernel
theorem dX6_advance_297 : decode cX6_advance 297 = .ok (.aload_n 0, 1) := by decide +kernel
theorem dX6_advance_298 : decode cX6_advance 298 = .ok (.getfield 66, 3) := by decide +kernel
theorem dX6_advance_301 : decode cX6_advance 301 = .ok (.bipush 60, 2) := by decide +kernel
theorem dX6_advance_303 : decode cX6_advance 303 = .ok (.if_icmp .lt 16, 3) := by decide +kernel
theorem dX6_advance_306 : decode cX6_advance 306 = .ok (.aload_n 0, 1) := by decide +kernel
theorem dX6_advance_307 : decode cX6_advance 307 = .ok (.getfield 66, 3) := by decide +kernel
theorem dX6_advance_310 : decode cX6_advance 310 = .ok (.bipush 62, 2) := by decide +kernel
theorem dX6_advance_312 : decode cX6_advance 312 = .ok (.if_icmp .gt 7, 3) := by decide +kernel
theorem dX6_advance_315 : decode cX6_advance 315 = .ok (.iconst 3, 1) := by decide +kernel
theorem dX6_advance_316 : decode cX6_advance 316 = .ok (.goto 4, 3) := by decide +kernel
theorem dX6_advance_319 : decode cX6_advance 319 = .ok (.iconst 4, 1) := by decide +kernel
theorem dX6_advance_320 : decode cX6_advance 320 = .ok (.putfield 60, 3) := by decide +kernel
theorem dX6_advance_323 : decode cX6_advance 323 = .ok (.goto 43, 3) := by decide +kernel
theorem dX6_advance_326 : decode cX6_advance 326 = .ok (.iload_n 2, 1) := by decide +kernel
theorem dX6_advance_327 : decode cX6_advance 327 = .ok (.ifCond .ne 21, 3) := by decide +kernel
theorem dX6_advance_330 : decode cX6_advance 330 = .ok (.aload_n 0, 1) := by decide +kernel
theorem dX6_advance_331 : decode cX6_advance 331 = .ok (.iload_n 1, 1) := by decide +kernel
theorem dX6_advance_332 : decode cX6_advance 332 = .ok (.bipush 7, 2) := by decide +kernel
theorem dX6_advance_334 : decode cX6_advance 334 = .ok (.if_icmp .gt 7, 3) := by decide +kernel
theorem dX6_advance_337 : decode cX6_advance 337 = .ok (.iconst 1, 1) := by decide +kernel
theorem dX6_advance_338 : decode cX6_advance 338 = .ok (.goto 4, 3) := by decide +kernel
theorem dX6_advance_341 : decode cX6_advance 341 = .ok (.iconst 4, 1) := by decide +kernel
theorem dX6_advance_342 : decode cX6_advance 342 = .ok (.putfield 60, 3) := by decide +kernel
theorem dX6_advance_345 : decode cX6_advance 345 = .ok (.goto 21, 3) := by decide +kernel
theorem dX6_advance_348 : decode cX6_advance 348 = .ok (.aload_n 0, 1) := by decide +kernel
theorem dX6_advance_349 : decode cX6_advance 349 = .ok (.iload_n 1, 1) := by decide +kernel
theorem dX6_advance_350 : decode cX6_advance 350 = .ok (.ifCond .ne 12, 3) := by decide +kernel
theorem dX6_advance_353 : decode cX6_advance 353 = .ok (.iload_n 2, 1) := by decide +kernel
theorem dX6_advance_354 : decode cX6_advance 354 = .ok (.iconst 3, 1) := by decide +kernel
theorem dX6_advance_355 : decode cX6_advance 355 = .ok (.if_icmp .gt 7, 3) := by decide +kernel
theorem dX6_advance_358 : decode cX6_advance 358 = .ok (.iconst 2, 1) := by decide +kernel
theorem dX6_advance_359 : decode cX6_advance 359 = .ok (.goto 4, 3) := by decide +kernel
theorem dX6_advance_362 : decode cX6_advance 362 = .ok (.iconst 4, 1) := by decide +kernel
theorem dX6_advance_363 : decode cX6_advance 363 = .ok (.putfield 60, 3) := by decide +kernel
theorem dX6_advance_366 : decode cX6_advance 366 = .ok (.return_, 1) := by decide +kernel
theorem dX6_canBeNameOrSoul_0 : decode cX6_canBeNameOrSoul 0 = .ok (.aload_n 0, 1) := by decide +kernel
theorem dX6_canBeNameOrSoul_1 : decode cX6_canBeNameOrSoul 1 = .ok (.getfield 60, 3) := by decide +kernel
theorem dX6_canBeNameOrSoul_4 : decode cX6_canBeNameOrSoul 4 = .ok (.iconst 1, 1) := by decide +kernel
theorem dX6_canBeNameOrSoul_5 : decode cX6_canBeNameOrSoul 5 = .ok (.if_icmp .eq 5, 3) := by decide +kernel
theorem dX6_canBeNameOrSoul_8 : decode cX6_canBeNameOrSoul 8 = .ok (.iconst 0, 1) := by decide +kernel
theorem dX6_canBeNameOrSoul_9 : decode cX6_canBeNameOrSoul 9 = .ok (.ireturn, 1) := by decide +kernel
theorem dX6_canBeNameOrSoul_10 : decode cX6_canBeNameOrSoul 10 = .ok (.iconst 0, 1) := by decide +kernel
theorem dX6_canBeNameOrSoul_11 : decode cX6_canBeNameOrSoul 11 = .ok (.istore_n 1, 1) := by decide +kernel
theorem dX6_canBeNameOrSoul_12 : decode cX6_canBeNameOrSoul 12 = .ok (.iload_n 1, 1) := by decide +kernel
theorem dX6_canBeNameOrSoul_13 : decode cX6_canBeNameOrSoul 13 = .ok (.aload_n 0, 1) := by decide +kernel
theorem dX6_canBeNameOrSoul_14 : decode cX6_canBeNameOrSoul 14 = .ok (.getfield 15, 3) := by decide +kernel
theorem dX6_canBeNameOrSoul_17 : decode cX6_canBeNameOrSoul 17 = .ok (.arraylength, 1) := by decide +kernel
theorem dX6_canBeNameOrSoul_18 : decode cX6_canBeNameOrSoul 18 = .ok (.if_icmp .ge 25, 3) := by decide +kernel
theorem dX6_canBeNameOrSoul_21 : decode cX6_canBeNameOrSoul 21 = .ok (.aload_n 0, 1) := by decide +kernel
theorem dX6_canBeNameOrSoul_22 : decode cX6_canBeNameOrSoul 22 = .ok (.getfield 15, 3) := by decide +kernel
theorem dX6_canBeNameOrSoul_25 : decode cX6_canBeNameOrSoul 25 = .ok (.iload_n 1, 1) := by decide +kernel
theorem dX6_canBeNameOrSoul_26 : decode cX6_canBeNameOrSoul 26 = .ok (.laload, 1) := by decide +kernel
theorem dX6_canBeNameOrSoul_27 : decode cX6_canBeNameOrSoul 27 = .ok (.aload_n 0, 1) := by decide +kernel
theorem dX6_canBeNameOrSoul_28 : decode cX6_canBeNameOrSoul 28 = .ok (.getfield 69, 3) := by decide +kernel
theorem dX6_canBeNameOrSoul_31 : decode cX6_canBeNameOrSoul 31 = .ok (.lcmp, 1) := by decide +kernel
theorem dX6_canBeNameOrSoul_32 : decode cX6_canBeNameOrSoul 32 = .ok (.ifCond .ne 5, 3) := by decide +kernel
theorem dX6_canBeNameOrSoul_35 : decode cX6_canBeNameOrSoul 35 = .ok (.iconst 0, 1) := by decide +kernel
theorem dX6_canBeNameOrSoul_36 : decode cX6_canBeNameOrSoul 36 = .ok (.ireturn, 1) := by decide +kernel
theorem dX6_canBeNameOrSoul_37 : decode cX6_canBeNameOrSoul 37 = .ok (.iinc 1 1, 3) := by decide +kernel
theorem dX6_canBeNameOrSoul_40 : decode cX6_canBeNameOrSoul 40 = .ok (.goto (-28), 3) := by decide +kernel
theorem dX6_canBeNameOrSoul_43 : decode cX6_canBeNameOrSoul 43 = .ok (.iconst 1, 1) := by decide +kernel
theorem dX6_canBeNameOrSoul_44 : decode cX6_canBeNameOrSoul 44 = .ok (.ireturn, 1) := by decide +kernel
theorem dX6_hasRoom_0 : decode cX6_hasRoom 0 = .ok (.aload_n 0, 1) := by decide +kernel
theorem dX6_hasRoom_1 : decode cX6_hasRoom 1 = .ok (.getfield 43, 3) := by decide +kernel
theorem dX6_hasRoom_4 : decode cX6_hasRoom 4 = .ok (.iload_n 1, 1) := by decide +kernel
theorem dX6_hasRoom_5 : decode cX6_hasRoom 5 = .ok (.iadd, 1) := by decide +kernel
theorem dX6_hasRoom_6 : decode cX6_hasRoom 6 = .ok (.sipush 940, 3) := by decide +kernel
theorem dX6_hasRoom_9 : decode cX6_hasRoom 9 = .ok (.if_icmp .gt 7, 3) := by decide +kernel
theorem dX6_hasRoom_12 : decode cX6_hasRoom 12 = .ok (.iconst 1, 1) := by decide +kernel
theorem dX6_hasRoom_13 : decode cX6_hasRoom 13 = .ok (.goto 4, 3) := by decide +kernel
theorem dX6_hasRoom_16 : decode cX6_hasRoom 16 = .ok (.iconst 0, 1) := by decide +kernel
theorem dX6_hasRoom_17 : decode cX6_hasRoom 17 = .ok (.ireturn, 1) := by decide +kernel
theorem dX6_isWord_0 : decode cX6_isWord 0 = .ok (.lconst 0, 1) := by decide +kernel
theorem dX6_isWord_1 : decode cX6_isWord 1 = .ok (.lstore_n 2, 1) := by decide +kernel
theorem dX6_isWord_2 : decode cX6_isWord 2 = .ok (.iconst 0, 1) := by decide +kernel
theorem dX6_isWord_3 : decode cX6_isWord 3 = .ok (.istore 4, 2) := by decide +kernel
