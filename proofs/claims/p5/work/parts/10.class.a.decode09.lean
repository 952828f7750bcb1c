theorem dX4_judge_116 : decode cX4_judge 116 = .ok (.getfield 116, 3) := by decide +kernel
theorem dX4_judge_119 : decode cX4_judge 119 = .ok (.iconst 1, 1) := by decide +kernel
theorem dX4_judge_120 : decode cX4_judge 120 = .ok (.iadd, 1) := by decide +kernel
theorem dX4_judge_121 : decode cX4_judge 121 = .ok (.putfield 116, 3) := by decide +kernel
theorem dX4_judge_124 : decode cX4_judge 124 = .ok (.iinc 2 1, 3) := by decide +kernel
theorem dX4_judge_127 : decode cX4_judge 127 = .ok (.goto (-110), 3) := by decide +kernel
theorem dX4_judge_130 : decode cX4_judge 130 = .ok (.aload_n 0, 1) := by decide +kernel
theorem dX4_judge_131 : decode cX4_judge 131 = .ok (.aload_n 1, 1) := by decide +kernel
theorem dX4_judge_132 : decode cX4_judge 132 = .ok (.getfield 129, 3) := by decide +kernel
theorem dX4_judge_135 : decode cX4_judge 135 = .ok (.putfield 131, 3) := by decide +kernel
theorem dX4_judge_138 : decode cX4_judge 138 = .ok (.aload_n 0, 1) := by decide +kernel
theorem dX4_judge_139 : decode cX4_judge 139 = .ok (.aload_n 1, 1) := by decide +kernel
theorem dX4_judge_140 : decode cX4_judge 140 = .ok (.getfield 134, 3) := by decide +kernel
theorem dX4_judge_143 : decode cX4_judge 143 = .ok (.putfield 137, 3) := by decide +kernel
theorem dX4_judge_146 : decode cX4_judge 146 = .ok (.aload_n 0, 1) := by decide +kernel
theorem dX4_judge_147 : decode cX4_judge 147 = .ok (.getfield 113, 3) := by decide +kernel
theorem dX4_judge_150 : decode cX4_judge 150 = .ok (.ifCond .ne 7, 3) := by decide +kernel
theorem dX4_judge_153 : decode cX4_judge 153 = .ok (.iconst (-1), 1) := by decide +kernel
theorem dX4_judge_154 : decode cX4_judge 154 = .ok (.goto 7, 3) := by decide +kernel
theorem dX4_judge_157 : decode cX4_judge 157 = .ok (.aload_n 0, 1) := by decide +kernel
theorem dX4_judge_158 : decode cX4_judge 158 = .ok (.getfield 116, 3) := by decide +kernel
theorem dX4_judge_161 : decode cX4_judge 161 = .ok (.ireturn, 1) := by decide +kernel
theorem dX4_read_0 : decode cX4_read 0 = .ok (.aload_n 0, 1) := by decide +kernel
theorem dX4_read_1 : decode cX4_read 1 = .ok (.iconst 0, 1) := by decide +kernel
theorem dX4_read_2 : decode cX4_read 2 = .ok (.putfield 29, 3) := by decide +kernel
theorem dX4_read_5 : decode cX4_read 5 = .ok (.aload_n 0, 1) := by decide +kernel
theorem dX4_read_6 : decode cX4_read 6 = .ok (.getfield 21, 3) := by decide +kernel
theorem dX4_read_9 : decode cX4_read 9 = .ok (.sipush 400, 3) := by decide +kernel
theorem dX4_read_12 : decode cX4_read 12 = .ok (.invokevirtual 33, 3) := by decide +kernel
theorem dX4_read_15 : decode cX4_read 15 = .ok (.iconst 0, 1) := by decide +kernel
theorem dX4_read_16 : decode cX4_read 16 = .ok (.istore_n 1, 1) := by decide +kernel
theorem dX4_read_17 : decode cX4_read 17 = .ok (.iload_n 1, 1) := by decide +kernel
theorem dX4_read_18 : decode cX4_read 18 = .ok (.bipush 40, 2) := by decide +kernel
theorem dX4_read_20 : decode cX4_read 20 = .ok (.if_icmp .gt 40, 3) := by decide +kernel
theorem dX4_read_23 : decode cX4_read 23 = .ok (.aload_n 0, 1) := by decide +kernel
theorem dX4_read_24 : decode cX4_read 24 = .ok (.getfield 21, 3) := by decide +kernel
theorem dX4_read_27 : decode cX4_read 27 = .ok (.getfield 39, 3) := by decide +kernel
theorem dX4_read_30 : decode cX4_read 30 = .ok (.ifCond .eq 30, 3) := by decide +kernel
theorem dX4_read_33 : decode cX4_read 33 = .ok (.aload_n 0, 1) := by decide +kernel
theorem dX4_read_34 : decode cX4_read 34 = .ok (.invokevirtual 42, 3) := by decide +kernel
theorem dX4_read_37 : decode cX4_read 37 = .ok (.ifCond .eq 15, 3) := by decide +kernel
theorem dX4_read_40 : decode cX4_read 40 = .ok (.aload_n 0, 1) := by decide +kernel
theorem dX4_read_41 : decode cX4_read 41 = .ok (.getfield 21, 3) := by decide +kernel
theorem dX4_read_44 : decode cX4_read 44 = .ok (.bipush 59, 2) := by decide +kernel
theorem dX4_read_46 : decode cX4_read 46 = .ok (.invokevirtual 46, 3) := by decide +kernel
theorem dX4_read_49 : decode cX4_read 49 = .ok (.ifCond .ne 5, 3) := by decide +kernel
theorem dX4_read_52 : decode cX4_read 52 = .ok (.iconst 0, 1) := by decide +kernel
theorem dX4_read_53 : decode cX4_read 53 = .ok (.ireturn, 1) := by decide +kernel
theorem dX4_read_54 : decode cX4_read 54 = .ok (.iinc 1 1, 3) := by decide +kernel
theorem dX4_read_57 : decode cX4_read 57 = .ok (.goto (-40), 3) := by decide +kernel
theorem dX4_read_60 : decode cX4_read 60 = .ok (.iconst 1, 1) := by decide +kernel
theorem dX4_read_61 : decode cX4_read 61 = .ok (.ireturn, 1) := by decide +kernel
theorem dX4_readDeed_0 : decode cX4_readDeed 0 = .ok (.aload_n 0, 1) := by decide +kernel
theorem dX4_readDeed_1 : decode cX4_readDeed 1 = .ok (.getfield 21, 3) := by decide +kernel
theorem dX4_readDeed_4 : decode cX4_readDeed 4 = .ok (.ldc 89, 2) := by decide +kernel
theorem dX4_readDeed_6 : decode cX4_readDeed 6 = .ok (.invokevirtual 52, 3) := by decide +kernel
theorem dX4_readDeed_9 : decode cX4_readDeed 9 = .ok (.ifCond .eq 51, 3) := by decide +kernel
theorem dX4_readDeed_12 : decode cX4_readDeed 12 = .ok (.aload_n 0, 1) := by decide +kernel
theorem dX4_readDeed_13 : decode cX4_readDeed 13 = .ok (.iconst 0, 1) := by decide +kernel
theorem dX4_readDeed_14 : decode cX4_readDeed 14 = .ok (.invokevirtual 79, 3) := by decide +kernel
theorem dX4_readDeed_17 : decode cX4_readDeed 17 = .ok (.ifCond .eq 41, 3) := by decide +kernel
theorem dX4_readDeed_20 : decode cX4_readDeed 20 = .ok (.aload_n 0, 1) := by decide +kernel
theorem dX4_readDeed_21 : decode cX4_readDeed 21 = .ok (.getfield 21, 3) := by decide +kernel
theorem dX4_readDeed_24 : decode cX4_readDeed 24 = .ok (.invokevirtual 91, 3) := by decide +kernel
theorem dX4_readDeed_27 : decode cX4_readDeed 27 = .ok (.ifCond .eq 31, 3) := by decide +kernel
theorem dX4_readDeed_30 : decode cX4_readDeed 30 = .ok (.aload_n 0, 1) := by decide +kernel
theorem dX4_readDeed_31 : decode cX4_readDeed 31 = .ok (.getfield 21, 3) := by decide +kernel
theorem dX4_readDeed_34 : decode cX4_readDeed 34 = .ok (.aload_n 0, 1) := by decide +kernel
theorem dX4_readDeed_35 : decode cX4_readDeed 35 = .ok (.getfield 25, 3) := by decide +kernel
theorem dX4_readDeed_38 : decode cX4_readDeed 38 = .ok (.aload_n 0, 1) := by decide +kernel
theorem dX4_readDeed_39 : decode cX4_readDeed 39 = .ok (.getfield 21, 3) := by decide +kernel
theorem dX4_readDeed_42 : decode cX4_readDeed 42 = .ok (.getfield 56, 3) := by decide +kernel
theorem dX4_readDeed_45 : decode cX4_readDeed 45 = .ok (.invokevirtual 94, 3) := by decide +kernel
theorem dX4_readDeed_48 : decode cX4_readDeed 48 = .ok (.invokevirtual 66, 3) := by decide +kernel
theorem dX4_readDeed_51 : decode cX4_readDeed 51 = .ok (.ifCond .eq 7, 3) := by decide +kernel
theorem dX4_readDeed_54 : decode cX4_readDeed 54 = .ok (.iconst 1, 1) := by decide +kernel
theorem dX4_readDeed_55 : decode cX4_readDeed 55 = .ok (.goto 4, 3) := by decide +kernel
theorem dX4_readDeed_58 : decode cX4_readDeed 58 = .ok (.iconst 0, 1) := by decide +kernel
theorem dX4_readDeed_59 : decode cX4_readDeed 59 = .ok (.ireturn, 1) := by decide +kernel
theorem dX4_readDeed_60 : decode cX4_readDeed 60 = .ok (.aload_n 0, 1) := by decide +kernel
theorem dX4_readDeed_61 : decode cX4_readDeed 61 = .ok (.getfield 21, 3) := by decide +kernel
theorem dX4_readDeed_64 : decode cX4_readDeed 64 = .ok (.ldc 97, 2) := by decide +kernel
theorem dX4_readDeed_66 : decode cX4_readDeed 66 = .ok (.invokevirtual 52, 3) := by decide +kernel
theorem dX4_readDeed_69 : decode cX4_readDeed 69 = .ok (.ifCond .eq 51, 3) := by decide +kernel
theorem dX4_readDeed_72 : decode cX4_readDeed 72 = .ok (.aload_n 0, 1) := by decide +kernel
theorem dX4_readDeed_73 : decode cX4_readDeed 73 = .ok (.iconst 1, 1) := by decide +kernel
theorem dX4_readDeed_74 : decode cX4_readDeed 74 = .ok (.invokevirtual 79, 3) := by decide +kernel
theorem dX4_readDeed_77 : decode cX4_readDeed 77 = .ok (.ifCond .eq 41, 3) := by decide +kernel
theorem dX4_readDeed_80 : decode cX4_readDeed 80 = .ok (.aload_n 0, 1) := by decide +kernel
theorem dX4_readDeed_81 : decode cX4_readDeed 81 = .ok (.getfield 21, 3) := by decide +kernel
theorem dX4_readDeed_84 : decode cX4_readDeed 84 = .ok (.invokevirtual 91, 3) := by decide +kernel
theorem dX4_readDeed_87 : decode cX4_readDeed 87 = .ok (.ifCond .eq 31, 3) := by decide +kernel
theorem dX4_readDeed_90 : decode cX4_readDeed 90 = .ok (.aload_n 0, 1) := by decide +kernel
theorem dX4_readDeed_91 : decode cX4_readDeed 91 = .ok (.getfield 21, 3) := by decide +kernel
theorem dX4_readDeed_94 : decode cX4_readDeed 94 = .ok (.aload_n 0, 1) := by decide +kernel
theorem dX4_readDeed_95 : decode cX4_readDeed 95 = .ok (.getfield 25, 3) := by decide +kernel
theorem dX4_readDeed_98 : decode cX4_readDeed 98 = .ok (.aload_n 0, 1) := by decide +kernel
theorem dX4_readDeed_99 : decode cX4_readDeed 99 = .ok (.getfield 21, 3) := by decide +kernel
theorem dX4_readDeed_102 : decode cX4_readDeed 102 = .ok (.getfield 56, 3) := by decide +kernel
theorem dX4_readDeed_105 : decode cX4_readDeed 105 = .ok (.invokevirtual 60, 3) := by decide +kernel
theorem dX4_readDeed_108 : decode cX4_readDeed 108 = .ok (.invokevirtual 66, 3) := by decide +kernel
theorem dX4_readDeed_111 : decode cX4_readDeed 111 = .ok (.ifCond .eq 7, 3) := by decide +kernel
theorem dX4_readDeed_114 : decode cX4_readDeed 114 = .ok (.iconst 1, 1) := by decide +kernel
theorem dX4_readDeed_115 : decode cX4_readDeed 115 = .ok (.goto 4, 3) := by decide +kernel
theorem dX4_readDeed_118 : decode cX4_readDeed 118 = .ok (.iconst 0, 1) := by decide +kernel
theorem dX4_readDeed_119 : decode cX4_readDeed 119 = .ok (.ireturn, 1) := by decide +kernel
theorem dX4_readDeed_120 : decode cX4_readDeed 120 = .ok (.aload_n 0, 1) := by decide +kernel
theorem dX4_readDeed_121 : decode cX4_readDeed 121 = .ok (.getfield 21, 3) := by decide +kernel
theorem dX4_readDeed_124 : decode cX4_readDeed 124 = .ok (.ldc 99, 2) := by decide +kernel
theorem dX4_readDeed_126 : decode cX4_readDeed 126 = .ok (.invokevirtual 52, 3) := by decide +kernel
theorem dX4_readDeed_129 : decode cX4_readDeed 129 = .ok (.ifCond .eq 51, 3) := by decide +kernel
theorem dX4_readDeed_132 : decode cX4_readDeed 132 = .ok (.aload_n 0, 1) := by decide +kernel
theorem dX4_readDeed_133 : decode cX4_readDeed 133 = .ok (.iconst 2, 1) := by decide +kernel
theorem dX4_readDeed_134 : decode cX4_readDeed 134 = .ok (.invokevirtual 79, 3) := by decide +kernel
theorem dX4_readDeed_137 : decode cX4_readDeed 137 = .ok (.ifCond .eq 41, 3) := by decide +kernel
theorem dX4_readDeed_140 : decode cX4_readDeed 140 = .ok (.aload_n 0, 1) := by decide +kernel
theorem dX4_readDeed_141 : decode cX4_readDeed 141 = .ok (.getfield 21, 3) := by decide +kernel
theorem dX4_readDeed_144 : decode cX4_readDeed 144 = .ok (.invokevirtual 91, 3) := by decide +kernel
theorem dX4_readDeed_147 : decode cX4_readDeed 147 = .ok (.ifCond .eq 31, 3) := by decide +kernel
theorem dX4_readDeed_150 : decode cX4_readDeed 150 = .ok (.aload_n 0, 1) := by decide +kernel
theorem dX4_readDeed_151 : decode cX4_readDeed 151 = .ok (.getfield 21, 3) := by decide +kernel
theorem dX4_readDeed_154 : decode cX4_readDeed 154 = .ok (.aload_n 0, 1) := by decide +kernel
theorem dX4_readDeed_155 : decode cX4_readDeed 155 = .ok (.getfield 25, 3) := by decide +kernel
theorem dX4_readDeed_158 : decode cX4_readDeed 158 = .ok (.aload_n 0, 1) := by decide +kernel
theorem dX4_readDeed_159 : decode cX4_readDeed 159 = .ok (.getfield 21, 3) := by decide +kernel
theorem dX4_readDeed_162 : decode cX4_readDeed 162 = .ok (.getfield 56, 3) := by decide +kernel
theorem dX4_readDeed_165 : decode cX4_readDeed 165 = .ok (.invokevirtual 60, 3) := by decide +kernel
theorem dX4_readDeed_168 : decode cX4_readDeed 168 = .ok (.invokevirtual 66, 3) := by decide +kernel
theorem dX4_readDeed_171 : decode cX4_readDeed 171 = .ok (.ifCond .eq 7, 3) := by decide +kernel
theorem dX4_readDeed_174 : decode cX4_readDeed 174 = .ok (.iconst 1, 1) := by decide +kernel
theorem dX4_readDeed_175 : decode cX4_readDeed 175 = .ok (.goto 4, 3) := by decide +kernel
theorem dX4_readDeed_178 : decode cX4_readDeed 178 = .ok (.iconst 0, 1) := by decide +kernel
theorem dX4_readDeed_179 : decode cX4_readDeed 179 = .ok (.ireturn, 1) := by decide +kernel
theorem dX4_readDeed_180 : decode cX4_readDeed 180 = .ok (.aload_n 0, 1) := by decide +kernel
theorem dX4_readDeed_181 : decode cX4_readDeed 181 = .ok (.getfield 21, 3) := by decide +kernel
theorem dX4_readDeed_184 : decode cX4_readDeed 184 = .ok (.ldc 101, 2) := by decide +kernel
theorem dX4_readDeed_186 : decode cX4_readDeed 186 = .ok (.invokevirtual 52, 3) := by decide +kernel
theorem dX4_readDeed_189 : decode cX4_readDeed 189 = .ok (.ifCond .eq 27, 3) := by decide +kernel
theorem dX4_readDeed_192 : decode cX4_readDeed 192 = .ok (.aload_n 0, 1) := by decide +kernel
theorem dX4_readDeed_193 : decode cX4_readDeed 193 = .ok (.iconst 3, 1) := by decide +kernel
theorem dX4_readDeed_194 : decode cX4_readDeed 194 = .ok (.invokevirtual 79, 3) := by decide +kernel
theorem dX4_readDeed_197 : decode cX4_readDeed 197 = .ok (.ifCond .eq 17, 3) := by decide +kernel
theorem dX4_readDeed_200 : decode cX4_readDeed 200 = .ok (.aload_n 0, 1) := by decide +kernel
theorem dX4_readDeed_201 : decode cX4_readDeed 201 = .ok (.getfield 21, 3) := by decide +kernel
theorem dX4_readDeed_204 : decode cX4_readDeed 204 = .ok (.invokevirtual 91, 3) := by decide +kernel
theorem dX4_readDeed_207 : decode cX4_readDeed 207 = .ok (.ifCond .eq 7, 3) := by decide +kernel
theorem dX4_readDeed_210 : decode cX4_readDeed 210 = .ok (.iconst 1, 1) := by decide +kernel
theorem dX4_readDeed_211 : decode cX4_readDeed 211 = .ok (.goto 4, 3) := by decide +kernel
theorem dX4_readDeed_214 : decode cX4_readDeed 214 = .ok (.iconst 0, 1) := by decide +kernel
theorem dX4_readDeed_215 : decode cX4_readDeed 215 = .ok (.ireturn, 1) := by decide +kernel
theorem dX4_readDeed_216 : decode cX4_readDeed 216 = .ok (.aload_n 0, 1) := by decide +kernel
theorem dX4_readDeed_217 : decode cX4_readDeed 217 = .ok (.getfield 21, 3) := by decide +kernel
theorem dX4_readDeed_220 : decode cX4_readDeed 220 = .ok (.ldc 103, 2) := by decide +kernel
theorem dX4_readDeed_222 : decode cX4_readDeed 222 = .ok (.invokevirtual 52, 3) := by decide +kernel
theorem dX4_readDeed_225 : decode cX4_readDeed 225 = .ok (.ifCond .eq 28, 3) := by decide +kernel
theorem dX4_readDeed_228 : decode cX4_readDeed 228 = .ok (.aload_n 0, 1) := by decide +kernel
theorem dX4_readDeed_229 : decode cX4_readDeed 229 = .ok (.bipush 7, 2) := by decide +kernel
theorem dX4_readDeed_231 : decode cX4_readDeed 231 = .ok (.invokevirtual 79, 3) := by decide +kernel
theorem dX4_readDeed_234 : decode cX4_readDeed 234 = .ok (.ifCond .eq 17, 3) := by decide +kernel
theorem dX4_readDeed_237 : decode cX4_readDeed 237 = .ok (.aload_n 0, 1) := by decide +kernel
theorem dX4_readDeed_238 : decode cX4_readDeed 238 = .ok (.getfield 21, 3) := by decide +kernel
theorem dX4_readDeed_241 : decode cX4_readDeed 241 = .ok (.invokevirtual 91, 3) := by decide +kernel
theorem dX4_readDeed_244 : decode cX4_readDeed 244 = .ok (.ifCond .eq 7, 3) := by decide +kernel
theorem dX4_readDeed_247 : decode cX4_readDeed 247 = .ok (.iconst 1, 1) := by decide +kernel
theorem dX4_readDeed_248 : decode cX4_readDeed 248 = .ok (.goto 4, 3) := by decide +kernel
theorem dX4_readDeed_251 : decode cX4_readDeed 251 = .ok (.iconst 0, 1) := by decide +kernel
theorem dX4_readDeed_252 : decode cX4_readDeed 252 = .ok (.ireturn, 1) := by decide +kernel
theorem dX4_readDeed_253 : decode cX4_readDeed 253 = .ok (.aload_n 0, 1) := by decide +kernel
theorem dX4_readDeed_254 : decode cX4_readDeed 254 = .ok (.getfield 21, 3) := by decide +kernel
theorem dX4_readDeed_257 : decode cX4_readDeed 257 = .ok (.ldc 105, 2) := by decide +kernel
theorem dX4_readDeed_259 : decode cX4_readDeed 259 = .ok (.invokevirtual 52, 3) := by decide +kernel
theorem dX4_readDeed_262 : decode cX4_readDeed 262 = .ok (.ifCond .eq 27, 3) := by decide +kernel
theorem dX4_readDeed_265 : decode cX4_readDeed 265 = .ok (.aload_n 0, 1) := by decide +kernel
theorem dX4_readDeed_266 : decode cX4_readDeed 266 = .ok (.iconst 4, 1) := by decide +kernel
theorem dX4_readDeed_267 : decode cX4_readDeed 267 = .ok (.invokevirtual 79, 3) := by decide +kernel
theorem dX4_readDeed_270 : decode cX4_readDeed 270 = .ok (.ifCond .eq 17, 3) := by decide +kernel
theorem dX4_readDeed_273 : decode cX4_readDeed 273 = .ok (.aload_n 0, 1) := by decide +kernel
theorem dX4_readDeed_274 : decode cX4_readDeed 274 = .ok (.getfield 21, 3) := by decide +kernel
theorem dX4_readDeed_277 : decode cX4_readDeed 277 = .ok (.invokevirtual 91, 3) := by decide +kernel
theorem dX4_readDeed_280 : decode cX4_readDeed 280 = .ok (.ifCond .eq 7, 3) := by decide +kernel
theorem dX4_readDeed_283 : decode cX4_readDeed 283 = .ok (.iconst 1, 1) := by decide +kernel
theorem dX4_readDeed_284 : decode cX4_readDeed 284 = .ok (.goto 4, 3) := by decide +kernel
theorem dX4_readDeed_287 : decode cX4_readDeed 287 = .ok (.iconst 0, 1) := by decide +kernel
theorem dX4_readDeed_288 : decode cX4_readDeed 288 = .ok (.ireturn, 1) := by decide +kernel
theorem dX4_readDeed_289 : decode cX4_readDeed 289 = .ok (.aload_n 0, 1) := by decide +kernel
theorem dX4_readDeed_290 : decode cX4_readDeed 290 = .ok (.getfield 21, 3) := by decide +kernel
theorem dX4_readDeed_293 : decode cX4_readDeed 293 = .ok (.ldc 107, 2) := by decide +kernel
theorem dX4_readDeed_295 : decode cX4_readDeed 295 = .ok (.invokevirtual 52, 3) := by decide +kernel
theorem dX4_readDeed_298 : decode cX4_readDeed 298 = .ok (.ifCond .eq 40, 3) := by decide +kernel
theorem dX4_readDeed_301 : decode cX4_readDeed 301 = .ok (.aload_n 0, 1) := by decide +kernel
theorem dX4_readDeed_302 : decode cX4_readDeed 302 = .ok (.iconst 5, 1) := by decide +kernel
theorem dX4_readDeed_303 : decode cX4_readDeed 303 = .ok (.invokevirtual 79, 3) := by decide +kernel
theorem dX4_readDeed_306 : decode cX4_readDeed 306 = .ok (.ifCond .eq 30, 3) := by decide +kernel
theorem dX4_readDeed_309 : decode cX4_readDeed 309 = .ok (.aload_n 0, 1) := by decide +kernel
theorem dX4_readDeed_310 : decode cX4_readDeed 310 = .ok (.getfield 21, 3) := by decide +kernel
theorem dX4_readDeed_313 : decode cX4_readDeed 313 = .ok (.invokevirtual 91, 3) := by decide +kernel
theorem dX4_readDeed_316 : decode cX4_readDeed 316 = .ok (.ifCond .eq 20, 3) := by decide +kernel
theorem dX4_readDeed_319 : decode cX4_readDeed 319 = .ok (.aload_n 0, 1) := by decide +kernel
theorem dX4_readDeed_320 : decode cX4_readDeed 320 = .ok (.getfield 21, 3) := by decide +kernel
theorem dX4_readDeed_323 : decode cX4_readDeed 323 = .ok (.iconst 1, 1) := by decide +kernel
theorem dX4_readDeed_324 : decode cX4_readDeed 324 = .ok (.bipush 99, 2) := by decide +kernel
theorem dX4_readDeed_326 : decode cX4_readDeed 326 = .ok (.invokevirtual 82, 3) := by decide +kernel
theorem dX4_readDeed_329 : decode cX4_readDeed 329 = .ok (.ifCond .eq 7, 3) := by decide +kernel
theorem dX4_readDeed_332 : decode cX4_readDeed 332 = .ok (.iconst 1, 1) := by decide +kernel
theorem dX4_readDeed_333 : decode cX4_readDeed 333 = .ok (.goto 4, 3) := by decide +kernel
theorem dX4_readDeed_336 : decode cX4_readDeed 336 = .ok (.iconst 0, 1) := by decide +kernel
theorem dX4_readDeed_337 : decode cX4_readDeed 337 = .ok (.ireturn, 1) := by decide +kernel
theorem dX4_readDeed_338 : decode cX4_readDeed 338 = .ok (.aload_n 0, 1) := by decide +kernel
theorem dX4_readDeed_339 : decode cX4_readDeed 339 = .ok (.getfield 21, 3) := by decide +kernel
theorem dX4_readDeed_342 : decode cX4_readDeed 342 = .ok (.iconst 1, 1) := by decide +kernel
theorem dX4_readDeed_343 : decode cX4_readDeed 343 = .ok (.invokevirtual 70, 3) := by decide +kernel
theorem dX4_readDeed_346 : decode cX4_readDeed 346 = .ok (.ireturn, 1) := by decide +kernel
theorem dX4_readLine_0 : decode cX4_readLine 0 = .ok (.aload_n 0, 1) := by decide +kernel
theorem dX4_readLine_1 : decode cX4_readLine 1 = .ok (.getfield 21, 3) := by decide +kernel
theorem dX4_readLine_4 : decode cX4_readLine 4 = .ok (.ldc 50, 2) := by decide +kernel
theorem dX4_readLine_6 : decode cX4_readLine 6 = .ok (.invokevirtual 52, 3) := by decide +kernel
theorem dX4_readLine_9 : decode cX4_readLine 9 = .ok (.istore_n 1, 1) := by decide +kernel
theorem dX4_readLine_10 : decode cX4_readLine 10 = .ok (.aload_n 0, 1) := by decide +kernel
theorem dX4_readLine_11 : decode cX4_readLine 11 = .ok (.getfield 25, 3) := by decide +kernel
theorem dX4_readLine_14 : decode cX4_readLine 14 = .ok (.aload_n 0, 1) := by decide +kernel
theorem dX4_readLine_15 : decode cX4_readLine 15 = .ok (.getfield 21, 3) := by decide +kernel
theorem dX4_readLine_18 : decode cX4_readLine 18 = .ok (.getfield 56, 3) := by decide +kernel
theorem dX4_readLine_21 : decode cX4_readLine 21 = .ok (.invokevirtual 60, 3) := by decide +kernel
theorem dX4_readLine_24 : decode cX4_readLine 24 = .ok (.istore_n 2, 1) := by decide +kernel
theorem dX4_readLine_25 : decode cX4_readLine 25 = .ok (.aload_n 0, 1) := by decide +kernel
theorem dX4_readLine_26 : decode cX4_readLine 26 = .ok (.getfield 21, 3) := by decide +kernel
theorem dX4_readLine_29 : decode cX4_readLine 29 = .ok (.getfield 39, 3) := by decide +kernel
theorem dX4_readLine_32 : decode cX4_readLine 32 = .ok (.iconst 1, 1) := by decide +kernel
theorem dX4_readLine_33 : decode cX4_readLine 33 = .ok (.if_icmp .ne 12, 3) := by decide +kernel
theorem dX4_readLine_36 : decode cX4_readLine 36 = .ok (.iload_n 1, 1) := by decide +kernel
theorem dX4_readLine_37 : decode cX4_readLine 37 = .ok (.ifCond .ne 17, 3) := by decide +kernel
theorem dX4_readLine_40 : decode cX4_readLine 40 = .ok (.iload_n 2, 1) := by decide +kernel
theorem dX4_readLine_41 : decode cX4_readLine 41 = .ok (.iconst (-1), 1) := by decide +kernel
theorem dX4_readLine_42 : decode cX4_readLine 42 = .ok (.if_icmp .ne 12, 3) := by decide +kernel
theorem dX4_readLine_45 : decode cX4_readLine 45 = .ok (.aload_n 0, 1) := by decide +kernel
theorem dX4_readLine_46 : decode cX4_readLine 46 = .ok (.getfield 21, 3) := by decide +kernel
theorem dX4_readLine_49 : decode cX4_readLine 49 = .ok (.iload_n 2, 1) := by decide +kernel
theorem dX4_readLine_50 : decode cX4_readLine 50 = .ok (.invokevirtual 66, 3) := by decide +kernel
theorem dX4_readLine_53 : decode cX4_readLine 53 = .ok (.ireturn, 1) := by decide +kernel
theorem dX4_readLine_54 : decode cX4_readLine 54 = .ok (.aload_n 0, 1) := by decide +kernel
theorem dX4_readLine_55 : decode cX4_readLine 55 = .ok (.getfield 29, 3) := by decide +kernel
theorem dX4_readLine_58 : decode cX4_readLine 58 = .ok (.bipush 40, 2) := by decide +kernel
theorem dX4_readLine_60 : decode cX4_readLine 60 = .ok (.if_icmp .lt 12, 3) := by decide +kernel
theorem dX4_readLine_63 : decode cX4_readLine 63 = .ok (.aload_n 0, 1) := by decide +kernel
theorem dX4_readLine_64 : decode cX4_readLine 64 = .ok (.getfield 21, 3) := by decide +kernel
theorem dX4_readLine_67 : decode cX4_readLine 67 = .ok (.iconst 4, 1) := by decide +kernel
theorem dX4_readLine_68 : decode cX4_readLine 68 = .ok (.invokevirtual 70, 3) := by decide +kernel
theorem dX4_readLine_71 : decode cX4_readLine 71 = .ok (.ireturn, 1) := by decide +kernel
theorem dX4_readLine_72 : decode cX4_readLine 72 = .ok (.aload_n 0, 1) := by decide +kernel
theorem dX4_readLine_73 : decode cX4_readLine 73 = .ok (.getfield 21, 3) := by decide +kernel
theorem dX4_readLine_76 : decode cX4_readLine 76 = .ok (.invokevirtual 73, 3) := by decide +kernel
theorem dX4_readLine_79 : decode cX4_readLine 79 = .ok (.aload_n 0, 1) := by decide +kernel
theorem dX4_readLine_80 : decode cX4_readLine 80 = .ok (.getfield 15, 3) := by decide +kernel
theorem dX4_readLine_83 : decode cX4_readLine 83 = .ok (.aload_n 0, 1) := by decide +kernel
theorem dX4_readLine_84 : decode cX4_readLine 84 = .ok (.getfield 29, 3) := by decide +kernel
theorem dX4_readLine_87 : decode cX4_readLine 87 = .ok (.iload_n 2, 1) := by decide +kernel
theorem dX4_readLine_88 : decode cX4_readLine 88 = .ok (.iastore, 1) := by decide +kernel
theorem dX4_readLine_89 : decode cX4_readLine 89 = .ok (.aload_n 0, 1) := by decide +kernel
theorem dX4_readLine_90 : decode cX4_readLine 90 = .ok (.getfield 21, 3) := by decide +kernel
theorem dX4_readLine_93 : decode cX4_readLine 93 = .ok (.iconst 0, 1) := by decide +kernel
theorem dX4_readLine_94 : decode cX4_readLine 94 = .ok (.putfield 76, 3) := by decide +kernel
theorem dX4_readLine_97 : decode cX4_readLine 97 = .ok (.iload_n 1, 1) := by decide +kernel
theorem dX4_readLine_98 : decode cX4_readLine 98 = .ok (.ifCond .eq 28, 3) := by decide +kernel
theorem dX4_readLine_101 : decode cX4_readLine 101 = .ok (.aload_n 0, 1) := by decide +kernel
theorem dX4_readLine_102 : decode cX4_readLine 102 = .ok (.bipush 6, 2) := by decide +kernel
theorem dX4_readLine_104 : decode cX4_readLine 104 = .ok (.invokevirtual 79, 3) := by decide +kernel
theorem dX4_readLine_107 : decode cX4_readLine 107 = .ok (.ifCond .eq 26, 3) := by decide +kernel
theorem dX4_readLine_110 : decode cX4_readLine 110 = .ok (.aload_n 0, 1) := by decide +kernel
theorem dX4_readLine_111 : decode cX4_readLine 111 = .ok (.getfield 21, 3) := by decide +kernel
theorem dX4_readLine_114 : decode cX4_readLine 114 = .ok (.iconst 1, 1) := by decide +kernel
theorem dX4_readLine_115 : decode cX4_readLine 115 = .ok (.bipush 60, 2) := by decide +kernel
theorem dX4_readLine_117 : decode cX4_readLine 117 = .ok (.invokevirtual 82, 3) := by decide +kernel
theorem dX4_readLine_120 : decode cX4_readLine 120 = .ok (.ifCond .eq 13, 3) := by decide +kernel
theorem dX4_readLine_123 : decode cX4_readLine 123 = .ok (.goto 12, 3) := by decide +kernel
theorem dX4_readLine_126 : decode cX4_readLine 126 = .ok (.aload_n 0, 1) := by decide +kernel
theorem dX4_readLine_127 : decode cX4_readLine 127 = .ok (.invokevirtual 86, 3) := by decide +kernel
theorem dX4_readLine_130 : decode cX4_readLine 130 = .ok (.ifCond .ne 5, 3) := by decide +kernel
theorem dX4_readLine_133 : decode cX4_readLine 133 = .ok (.iconst 0, 1) := by decide +kernel
theorem dX4_readLine_134 : decode cX4_readLine 134 = .ok (.ireturn, 1) := by decide +kernel
theorem dX4_readLine_135 : decode cX4_readLine 135 = .ok (.aload_n 0, 1) := by decide +kernel
theorem dX4_readLine_136 : decode cX4_readLine 136 = .ok (.getfield 18, 3) := by decide +kernel
theorem dX4_readLine_139 : decode cX4_readLine 139 = .ok (.aload_n 0, 1) := by decide +kernel
theorem dX4_readLine_140 : decode cX4_readLine 140 = .ok (.getfield 29, 3) := by decide +kernel
theorem dX4_readLine_143 : decode cX4_readLine 143 = .ok (.aload_n 0, 1) := by decide +kernel
theorem dX4_readLine_144 : decode cX4_readLine 144 = .ok (.getfield 21, 3) := by decide +kernel
theorem dX4_readLine_147 : decode cX4_readLine 147 = .ok (.getfield 76, 3) := by decide +kernel
theorem dX4_readLine_150 : decode cX4_readLine 150 = .ok (.iastore, 1) := by decide +kernel
theorem dX4_readLine_151 : decode cX4_readLine 151 = .ok (.aload_n 0, 1) := by decide +kernel
theorem dX4_readLine_152 : decode cX4_readLine 152 = .ok (.dup, 1) := by decide +kernel
theorem dX4_readLine_153 : decode cX4_readLine 153 = .ok (.getfield 29, 3) := by decide +kernel
theorem dX4_readLine_156 : decode cX4_readLine 156 = .ok (.iconst 1, 1) := by decide +kernel
theorem dX4_readLine_157 : decode cX4_readLine 157 = .ok (.iadd, 1) := by decide +kernel
theorem dX4_readLine_158 : decode cX4_readLine 158 = .ok (.putfield 29, 3) := by decide +kernel
theorem dX4_readLine_161 : decode cX4_readLine 161 = .ok (.iconst 1, 1) := by decide +kernel
theorem dX4_readLine_162 : decode cX4_readLine 162 = .ok (.ireturn, 1) := by decide +kernel
theorem dX4_setSort_0 : decode cX4_setSort 0 = .ok (.aload_n 0, 1) := by decide +kernel
theorem dX4_setSort_1 : decode cX4_setSort 1 = .ok (.getfield 11, 3) := by decide +kernel
theorem dX4_setSort_4 : decode cX4_setSort 4 = .ok (.aload_n 0, 1) := by decide +kernel
theorem dX4_setSort_5 : decode cX4_setSort 5 = .ok (.getfield 29, 3) := by decide +kernel
theorem dX4_setSort_8 : decode cX4_setSort 8 = .ok (.iload_n 1, 1) := by decide +kernel
theorem dX4_setSort_9 : decode cX4_setSort 9 = .ok (.iastore, 1) := by decide +kernel
theorem dX4_setSort_10 : decode cX4_setSort 10 = .ok (.iconst 1, 1) := by decide +kernel
theorem dX4_setSort_11 : decode cX4_setSort 11 = .ok (.ireturn, 1) := by decide +kernel
theorem dX5_addStep_0 : decode cX5_addStep 0 = .ok (.aload_n 0, 1) := by decide +kernel
theorem dX5_addStep_1 : decode cX5_addStep 1 = .ok (.getfield 32, 3) := by decide +kernel
theorem dX5_addStep_4 : decode cX5_addStep 4 = .ok (.bipush 40, 2) := by decide +kernel
theorem dX5_addStep_6 : decode cX5_addStep 6 = .ok (.if_icmp .lt 12, 3) := by decide +kernel
theorem dX5_addStep_9 : decode cX5_addStep 9 = .ok (.aload_n 0, 1) := by decide +kernel
theorem dX5_addStep_10 : decode cX5_addStep 10 = .ok (.getfield 24, 3) := by decide +kernel
theorem dX5_addStep_13 : decode cX5_addStep 13 = .ok (.iconst 4, 1) := by decide +kernel
theorem dX5_addStep_14 : decode cX5_addStep 14 = .ok (.invokevirtual 56, 3) := by decide +kernel
theorem dX5_addStep_17 : decode cX5_addStep 17 = .ok (.ireturn, 1) := by decide +kernel
theorem dX5_addStep_18 : decode cX5_addStep 18 = .ok (.aload_n 0, 1) := by decide +kernel
theorem dX5_addStep_19 : decode cX5_addStep 19 = .ok (.getfield 11, 3) := by decide +kernel
theorem dX5_addStep_22 : decode cX5_addStep 22 = .ok (.aload_n 0, 1) := by decide +kernel
theorem dX5_addStep_23 : decode cX5_addStep 23 = .ok (.getfield 32, 3) := by decide +kernel
theorem dX5_addStep_26 : decode cX5_addStep 26 = .ok (.iload_n 1, 1) := by decide +kernel
theorem dX5_addStep_27 : decode cX5_addStep 27 = .ok (.iastore, 1) := by decide +kernel
theorem dX5_addStep_28 : decode cX5_addStep 28 = .ok (.aload_n 0, 1) := by decide +kernel
theorem dX5_addStep_29 : decode cX5_addStep 29 = .ok (.getfield 15, 3) := by decide +kernel
theorem dX5_addStep_32 : decode cX5_addStep 32 = .ok (.aload_n 0, 1) := by decide +kernel
theorem dX5_addStep_33 : decode cX5_addStep 33 = .ok (.getfield 32, 3) := by decide +kernel
theorem dX5_addStep_36 : decode cX5_addStep 36 = .ok (.iload_n 2, 1) := by decide +kernel
theorem dX5_addStep_37 : decode cX5_addStep 37 = .ok (.iastore, 1) := by decide +kernel
theorem dX5_addStep_38 : decode cX5_addStep 38 = .ok (.aload_n 0, 1) := by decide +kernel
theorem dX5_addStep_39 : decode cX5_addStep 39 = .ok (.getfield 18, 3) := by decide +kernel
theorem dX5_addStep_42 : decode cX5_addStep 42 = .ok (.aload_n 0, 1) := by decide +kernel
theorem dX5_addStep_43 : decode cX5_addStep 43 = .ok (.getfield 32, 3) := by decide +kernel
theorem dX5_addStep_46 : decode cX5_addStep 46 = .ok (.iload_n 3, 1) := by decide +kernel
theorem dX5_addStep_47 : decode cX5_addStep 47 = .ok (.iastore, 1) := by decide +kernel
theorem dX5_addStep_48 : decode cX5_addStep 48 = .ok (.aload_n 0, 1) := by decide +kernel
theorem dX5_addStep_49 : decode cX5_addStep 49 = .ok (.dup, 1) := by decide +kernel
theorem dX5_addStep_50 : decode cX5_addStep 50 = .ok (.getfield 32, 3) := by decide +kernel
theorem dX5_addStep_53 : decode cX5_addStep 53 = .ok (.iconst 1, 1) := by decide +kernel
theorem dX5_addStep_54 : decode cX5_addStep 54 = .ok (.iadd, 1) := by decide +kernel
theorem dX5_addStep_55 : decode cX5_addStep 55 = .ok (.putfield 32, 3) := by decide +kernel
theorem dX5_addStep_58 : decode cX5_addStep 58 = .ok (.iconst 1, 1) := by decide +kernel
theorem dX5_addStep_59 : decode cX5_addStep 59 = .ok (.ireturn, 1) := by decide +kernel
theorem dX5_copyFrom_0 : decode cX5_copyFrom 0 = .ok (.aload_n 0, 1) := by decide +kernel
theorem dX5_copyFrom_1 : decode cX5_copyFrom 1 = .ok (.aload_n 1, 1) := by decide +kernel
theorem dX5_copyFrom_2 : decode cX5_copyFrom 2 = .ok (.getfield 32, 3) := by decide +kernel
theorem dX5_copyFrom_5 : decode cX5_copyFrom 5 = .ok (.putfield 32, 3) := by decide +kernel
theorem dX5_copyFrom_8 : decode cX5_copyFrom 8 = .ok (.aload_n 0, 1) := by decide +kernel
theorem dX5_copyFrom_9 : decode cX5_copyFrom 9 = .ok (.aload_n 1, 1) := by decide +kernel
theorem dX5_copyFrom_10 : decode cX5_copyFrom 10 = .ok (.getfield 36, 3) := by decide +kernel
theorem dX5_copyFrom_13 : decode cX5_copyFrom 13 = .ok (.putfield 36, 3) := by decide +kernel
theorem dX5_copyFrom_16 : decode cX5_copyFrom 16 = .ok (.aload_n 1, 1) := by decide +kernel
theorem dX5_copyFrom_17 : decode cX5_copyFrom 17 = .ok (.getfield 11, 3) := by decide +kernel
theorem dX5_copyFrom_20 : decode cX5_copyFrom 20 = .ok (.aload_n 0, 1) := by decide +kernel
theorem dX5_copyFrom_21 : decode cX5_copyFrom 21 = .ok (.getfield 11, 3) := by decide +kernel
theorem dX5_copyFrom_24 : decode cX5_copyFrom 24 = .ok (.invokestatic 39, 3) := by decide +kernel
theorem dX5_copyFrom_27 : decode cX5_copyFrom 27 = .ok (.aload_n 1, 1) := by decide +kernel
theorem dX5_copyFrom_28 : decode cX5_copyFrom 28 = .ok (.getfield 15, 3) := by decide +kernel
theorem dX5_copyFrom_31 : decode cX5_copyFrom 31 = .ok (.aload_n 0, 1) := by decide +kernel
theorem dX5_copyFrom_32 : decode cX5_copyFrom 32 = .ok (.getfield 15, 3) := by decide +kernel
theorem dX5_copyFrom_35 : decode cX5_copyFrom 35 = .ok (.invokestatic 39, 3) := by decide +kernel
theorem dX5_copyFrom_38 : decode cX5_copyFrom 38 = .ok (.aload_n 1, 1) := by decide +kernel
theorem dX5_copyFrom_39 : decode cX5_copyFrom 39 = .ok (.getfield 18, 3) := by decide +kernel
theorem dX5_copyFrom_42 : decode cX5_copyFrom 42 = .ok (.aload_n 0, 1) := by decide +kernel
theorem dX5_copyFrom_43 : decode cX5_copyFrom 43 = .ok (.getfield 18, 3) := by decide +kernel
theorem dX5_copyFrom_46 : decode cX5_copyFrom 46 = .ok (.invokestatic 39, 3) := by decide +kernel
theorem dX5_copyFrom_49 : decode cX5_copyFrom 49 = .ok (.return_, 1) := by decide +kernel
theorem dX5_isMeasured_0 : decode cX5_isMeasured 0 = .ok (.aload_n 0, 1) := by decide +kernel
theorem dX5_isMeasured_1 : decode cX5_isMeasured 1 = .ok (.getfield 11, 3) := by decide +kernel
theorem dX5_isMeasured_4 : decode cX5_isMeasured 4 = .ok (.iload_n 1, 1) := by decide +kernel
theorem dX5_isMeasured_5 : decode cX5_isMeasured 5 = .ok (.iaload, 1) := by decide +kernel
theorem dX5_isMeasured_6 : decode cX5_isMeasured 6 = .ok (.aload_n 2, 1) := by decide +kernel
theorem dX5_isMeasured_7 : decode cX5_isMeasured 7 = .ok (.iload_n 3, 1) := by decide +kernel
theorem dX5_isMeasured_8 : decode cX5_isMeasured 8 = .ok (.invokestatic 168, 3) := by decide +kernel
theorem dX5_isMeasured_11 : decode cX5_isMeasured 11 = .ok (.istore 4, 2) := by decide +kernel
theorem dX5_isMeasured_13 : decode cX5_isMeasured 13 = .ok (.aload_n 0, 1) := by decide +kernel
theorem dX5_isMeasured_14 : decode cX5_isMeasured 14 = .ok (.getfield 15, 3) := by decide +kernel
theorem dX5_isMeasured_17 : decode cX5_isMeasured 17 = .ok (.iload_n 1, 1) := by decide +kernel
theorem dX5_isMeasured_18 : decode cX5_isMeasured 18 = .ok (.iaload, 1) := by decide +kernel
theorem dX5_isMeasured_19 : decode cX5_isMeasured 19 = .ok (.bipush 60, 2) := by decide +kernel
theorem dX5_isMeasured_21 : decode cX5_isMeasured 21 = .ok (.if_icmp .ne 20, 3) := by decide +kernel
theorem dX5_isMeasured_24 : decode cX5_isMeasured 24 = .ok (.iload 4, 2) := by decide +kernel
theorem dX5_isMeasured_26 : decode cX5_isMeasured 26 = .ok (.aload_n 0, 1) := by decide +kernel
theorem dX5_isMeasured_27 : decode cX5_isMeasured 27 = .ok (.getfield 18, 3) := by decide +kernel
theorem dX5_isMeasured_30 : decode cX5_isMeasured 30 = .ok (.iload_n 1, 1) := by decide +kernel
theorem dX5_isMeasured_31 : decode cX5_isMeasured 31 = .ok (.iaload, 1) := by decide +kernel
theorem dX5_isMeasured_32 : decode cX5_isMeasured 32 = .ok (.if_icmp .ge 7, 3) := by decide +kernel
theorem dX5_isMeasured_35 : decode cX5_isMeasured 35 = .ok (.iconst 1, 1) := by decide +kernel
theorem dX5_isMeasured_36 : decode cX5_isMeasured 36 = .ok (.goto 4, 3) := by decide +kernel
theorem dX5_isMeasured_39 : decode cX5_isMeasured 39 = .ok (.iconst 0, 1) := by decide +kernel
theorem dX5_isMeasured_40 : decode cX5_isMeasured 40 = .ok (.ireturn, 1) := by decide +kernel
theorem dX5_isMeasured_41 : decode cX5_isMeasured 41 = .ok (.aload_n 0, 1) := by decide +kernel
theorem dX5_isMeasured_42 : decode cX5_isMeasured 42 = .ok (.getfield 15, 3) := by decide +kernel
theorem dX5_isMeasured_45 : decode cX5_isMeasured 45 = .ok (.iload_n 1, 1) := by decide +kernel
theorem dX5_isMeasured_46 : decode cX5_isMeasured 46 = .ok (.iaload, 1) := by decide +kernel
theorem dX5_isMeasured_47 : decode cX5_isMeasured 47 = .ok (.bipush 61, 2) := by decide +kernel
theorem dX5_isMeasured_49 : decode cX5_isMeasured 49 = .ok (.if_icmp .ne 22, 3) := by decide +kernel
theorem dX5_isMeasured_52 : decode cX5_isMeasured 52 = .ok (.iload 4, 2) := by decide +kernel
theorem dX5_isMeasured_54 : decode cX5_isMeasured 54 = .ok (.aload_n 0, 1) := by decide +kernel
theorem dX5_isMeasured_55 : decode cX5_isMeasured 55 = .ok (.getfield 18, 3) := by decide +kernel
theorem dX5_isMeasured_58 : decode cX5_isMeasured 58 = .ok (.iload_n 1, 1) := by decide +kernel
theorem dX5_isMeasured_59 : decode cX5_isMeasured 59 = .ok (.iaload, 1) := by decide +kernel
theorem dX5_isMeasured_60 : decode cX5_isMeasured 60 = .ok (.if_icmp .ne 7, 3) := by decide +kernel
theorem dX5_isMeasured_63 : decode cX5_isMeasured 63 = .ok (.iconst 1, 1) := by decide +kernel
theorem dX5_isMeasured_64 : decode cX5_isMeasured 64 = .ok (.goto 23, 3) := by decide +kernel
