theorem dX12_roll_112 : decode cX12_roll 112 = .ok (.aload_n 0, 1) := by decide +kernel
theorem dX12_roll_113 : decode cX12_roll 113 = .ok (.getfield 401, 3) := by decide +kernel
theorem dX12_roll_116 : decode cX12_roll 116 = .ok (.if_icmp .ge 117, 3) := by decide +kernel
theorem dX12_roll_119 : decode cX12_roll 119 = .ok (.iload_n 2, 1) := by decide +kernel
theorem dX12_roll_120 : decode cX12_roll 120 = .ok (.ifCond .ge 113, 3) := by decide +kernel
theorem dX12_roll_123 : decode cX12_roll 123 = .ok (.iconst 3, 1) := by decide +kernel
theorem dX12_roll_124 : decode cX12_roll 124 = .ok (.iload_n 3, 1) := by decide +kernel
theorem dX12_roll_125 : decode cX12_roll 125 = .ok (.imul, 1) := by decide +kernel
theorem dX12_roll_126 : decode cX12_roll 126 = .ok (.istore 4, 2) := by decide +kernel
theorem dX12_roll_128 : decode cX12_roll 128 = .ok (.aload_n 0, 1) := by decide +kernel
theorem dX12_roll_129 : decode cX12_roll 129 = .ok (.aload_n 0, 1) := by decide +kernel
theorem dX12_roll_130 : decode cX12_roll 130 = .ok (.getfield 40, 3) := by decide +kernel
theorem dX12_roll_133 : decode cX12_roll 133 = .ok (.iload 4, 2) := by decide +kernel
theorem dX12_roll_135 : decode cX12_roll 135 = .ok (.iaload, 1) := by decide +kernel
theorem dX12_roll_136 : decode cX12_roll 136 = .ok (.aload_n 0, 1) := by decide +kernel
theorem dX12_roll_137 : decode cX12_roll 137 = .ok (.getfield 40, 3) := by decide +kernel
theorem dX12_roll_140 : decode cX12_roll 140 = .ok (.iload 4, 2) := by decide +kernel
theorem dX12_roll_142 : decode cX12_roll 142 = .ok (.iconst 1, 1) := by decide +kernel
theorem dX12_roll_143 : decode cX12_roll 143 = .ok (.iadd, 1) := by decide +kernel
theorem dX12_roll_144 : decode cX12_roll 144 = .ok (.iaload, 1) := by decide +kernel
theorem dX12_roll_145 : decode cX12_roll 145 = .ok (.aload_n 0, 1) := by decide +kernel
theorem dX12_roll_146 : decode cX12_roll 146 = .ok (.getfield 40, 3) := by decide +kernel
theorem dX12_roll_149 : decode cX12_roll 149 = .ok (.iload 4, 2) := by decide +kernel
theorem dX12_roll_151 : decode cX12_roll 151 = .ok (.iconst 2, 1) := by decide +kernel
theorem dX12_roll_152 : decode cX12_roll 152 = .ok (.iadd, 1) := by decide +kernel
theorem dX12_roll_153 : decode cX12_roll 153 = .ok (.iaload, 1) := by decide +kernel
theorem dX12_roll_154 : decode cX12_roll 154 = .ok (.invokevirtual 407, 3) := by decide +kernel
theorem dX12_roll_157 : decode cX12_roll 157 = .ok (.istore 5, 2) := by decide +kernel
theorem dX12_roll_159 : decode cX12_roll 159 = .ok (.iload 5, 2) := by decide +kernel
theorem dX12_roll_161 : decode cX12_roll 161 = .ok (.ifCond .le 27, 3) := by decide +kernel
theorem dX12_roll_164 : decode cX12_roll 164 = .ok (.aload_n 0, 1) := by decide +kernel
theorem dX12_roll_165 : decode cX12_roll 165 = .ok (.getfield 62, 3) := by decide +kernel
theorem dX12_roll_168 : decode cX12_roll 168 = .ok (.iconst 0, 1) := by decide +kernel
theorem dX12_roll_169 : decode cX12_roll 169 = .ok (.bipush 10, 2) := by decide +kernel
theorem dX12_roll_171 : decode cX12_roll 171 = .ok (.aload_n 0, 1) := by decide +kernel
theorem dX12_roll_172 : decode cX12_roll 172 = .ok (.getfield 40, 3) := by decide +kernel
theorem dX12_roll_175 : decode cX12_roll 175 = .ok (.iload 4, 2) := by decide +kernel
theorem dX12_roll_177 : decode cX12_roll 177 = .ok (.iaload, 1) := by decide +kernel
theorem dX12_roll_178 : decode cX12_roll 178 = .ok (.imul, 1) := by decide +kernel
theorem dX12_roll_179 : decode cX12_roll 179 = .ok (.iload 5, 2) := by decide +kernel
theorem dX12_roll_181 : decode cX12_roll 181 = .ok (.iadd, 1) := by decide +kernel
theorem dX12_roll_182 : decode cX12_roll 182 = .ok (.iastore, 1) := by decide +kernel
theorem dX12_roll_183 : decode cX12_roll 183 = .ok (.iload_n 3, 1) := by decide +kernel
theorem dX12_roll_184 : decode cX12_roll 184 = .ok (.istore_n 2, 1) := by decide +kernel
theorem dX12_roll_185 : decode cX12_roll 185 = .ok (.goto 42, 3) := by decide +kernel
theorem dX12_roll_188 : decode cX12_roll 188 = .ok (.aload_n 0, 1) := by decide +kernel
theorem dX12_roll_189 : decode cX12_roll 189 = .ok (.aload_n 0, 1) := by decide +kernel
theorem dX12_roll_190 : decode cX12_roll 190 = .ok (.getfield 40, 3) := by decide +kernel
theorem dX12_roll_193 : decode cX12_roll 193 = .ok (.iload 4, 2) := by decide +kernel
theorem dX12_roll_195 : decode cX12_roll 195 = .ok (.iaload, 1) := by decide +kernel
theorem dX12_roll_196 : decode cX12_roll 196 = .ok (.aload_n 0, 1) := by decide +kernel
theorem dX12_roll_197 : decode cX12_roll 197 = .ok (.getfield 40, 3) := by decide +kernel
theorem dX12_roll_200 : decode cX12_roll 200 = .ok (.iload 4, 2) := by decide +kernel
theorem dX12_roll_202 : decode cX12_roll 202 = .ok (.iconst 1, 1) := by decide +kernel
theorem dX12_roll_203 : decode cX12_roll 203 = .ok (.iadd, 1) := by decide +kernel
theorem dX12_roll_204 : decode cX12_roll 204 = .ok (.iaload, 1) := by decide +kernel
theorem dX12_roll_205 : decode cX12_roll 205 = .ok (.aload_n 0, 1) := by decide +kernel
theorem dX12_roll_206 : decode cX12_roll 206 = .ok (.getfield 40, 3) := by decide +kernel
theorem dX12_roll_209 : decode cX12_roll 209 = .ok (.iload 4, 2) := by decide +kernel
theorem dX12_roll_211 : decode cX12_roll 211 = .ok (.iconst 2, 1) := by decide +kernel
theorem dX12_roll_212 : decode cX12_roll 212 = .ok (.iadd, 1) := by decide +kernel
theorem dX12_roll_213 : decode cX12_roll 213 = .ok (.iaload, 1) := by decide +kernel
theorem dX12_roll_214 : decode cX12_roll 214 = .ok (.invokevirtual 411, 3) := by decide +kernel
theorem dX12_roll_217 : decode cX12_roll 217 = .ok (.aload_n 0, 1) := by decide +kernel
theorem dX12_roll_218 : decode cX12_roll 218 = .ok (.getfield 62, 3) := by decide +kernel
theorem dX12_roll_221 : decode cX12_roll 221 = .ok (.iconst 1, 1) := by decide +kernel
theorem dX12_roll_222 : decode cX12_roll 222 = .ok (.dup2, 1) := by decide +kernel
theorem dX12_roll_223 : decode cX12_roll 223 = .ok (.iaload, 1) := by decide +kernel
theorem dX12_roll_224 : decode cX12_roll 224 = .ok (.iconst 1, 1) := by decide +kernel
theorem dX12_roll_225 : decode cX12_roll 225 = .ok (.iadd, 1) := by decide +kernel
theorem dX12_roll_226 : decode cX12_roll 226 = .ok (.iastore, 1) := by decide +kernel
theorem dX12_roll_227 : decode cX12_roll 227 = .ok (.iinc 3 1, 3) := by decide +kernel
theorem dX12_roll_230 : decode cX12_roll 230 = .ok (.goto (-119), 3) := by decide +kernel
theorem dX12_roll_233 : decode cX12_roll 233 = .ok (.aload_n 0, 1) := by decide +kernel
theorem dX12_roll_234 : decode cX12_roll 234 = .ok (.getfield 62, 3) := by decide +kernel
theorem dX12_roll_237 : decode cX12_roll 237 = .ok (.iconst 2, 1) := by decide +kernel
theorem dX12_roll_238 : decode cX12_roll 238 = .ok (.aload_n 0, 1) := by decide +kernel
theorem dX12_roll_239 : decode cX12_roll 239 = .ok (.getfield 33, 3) := by decide +kernel
theorem dX12_roll_242 : decode cX12_roll 242 = .ok (.sipush 146, 3) := by decide +kernel
theorem dX12_roll_245 : decode cX12_roll 245 = .ok (.iaload, 1) := by decide +kernel
theorem dX12_roll_246 : decode cX12_roll 246 = .ok (.iastore, 1) := by decide +kernel
theorem dX12_roll_247 : decode cX12_roll 247 = .ok (.aload_n 0, 1) := by decide +kernel
theorem dX12_roll_248 : decode cX12_roll 248 = .ok (.getfield 62, 3) := by decide +kernel
theorem dX12_roll_251 : decode cX12_roll 251 = .ok (.iconst 3, 1) := by decide +kernel
theorem dX12_roll_252 : decode cX12_roll 252 = .ok (.aload_n 0, 1) := by decide +kernel
theorem dX12_roll_253 : decode cX12_roll 253 = .ok (.getfield 33, 3) := by decide +kernel
theorem dX12_roll_256 : decode cX12_roll 256 = .ok (.sipush 151, 3) := by decide +kernel
theorem dX12_roll_259 : decode cX12_roll 259 = .ok (.iaload, 1) := by decide +kernel
theorem dX12_roll_260 : decode cX12_roll 260 = .ok (.iastore, 1) := by decide +kernel
theorem dX12_roll_261 : decode cX12_roll 261 = .ok (.aload_n 0, 1) := by decide +kernel
theorem dX12_roll_262 : decode cX12_roll 262 = .ok (.iconst 1, 1) := by decide +kernel
theorem dX12_roll_263 : decode cX12_roll 263 = .ok (.putfield 415, 3) := by decide +kernel
theorem dX12_roll_266 : decode cX12_roll 266 = .ok (.iload_n 1, 1) := by decide +kernel
theorem dX12_roll_267 : decode cX12_roll 267 = .ok (.iconst 1, 1) := by decide +kernel
theorem dX12_roll_268 : decode cX12_roll 268 = .ok (.if_icmp .ne 54, 3) := by decide +kernel
theorem dX12_roll_271 : decode cX12_roll 271 = .ok (.aload_n 0, 1) := by decide +kernel
theorem dX12_roll_272 : decode cX12_roll 272 = .ok (.getfield 62, 3) := by decide +kernel
theorem dX12_roll_275 : decode cX12_roll 275 = .ok (.iconst 1, 1) := by decide +kernel
theorem dX12_roll_276 : decode cX12_roll 276 = .ok (.iaload, 1) := by decide +kernel
theorem dX12_roll_277 : decode cX12_roll 277 = .ok (.ifCond .le 45, 3) := by decide +kernel
theorem dX12_roll_280 : decode cX12_roll 280 = .ok (.aload_n 0, 1) := by decide +kernel
theorem dX12_roll_281 : decode cX12_roll 281 = .ok (.invokevirtual 280, 3) := by decide +kernel
theorem dX12_roll_284 : decode cX12_roll 284 = .ok (.iconst 0, 1) := by decide +kernel
theorem dX12_roll_285 : decode cX12_roll 285 = .ok (.istore_n 3, 1) := by decide +kernel
theorem dX12_roll_286 : decode cX12_roll 286 = .ok (.iload_n 3, 1) := by decide +kernel
theorem dX12_roll_287 : decode cX12_roll 287 = .ok (.sipush 1860, 3) := by decide +kernel
theorem dX12_roll_290 : decode cX12_roll 290 = .ok (.if_icmp .ge 32, 3) := by decide +kernel
theorem dX12_roll_293 : decode cX12_roll 293 = .ok (.aload_n 0, 1) := by decide +kernel
theorem dX12_roll_294 : decode cX12_roll 294 = .ok (.getfield 50, 3) := by decide +kernel
theorem dX12_roll_297 : decode cX12_roll 297 = .ok (.sipush 1860, 3) := by decide +kernel
theorem dX12_roll_300 : decode cX12_roll 300 = .ok (.aload_n 0, 1) := by decide +kernel
theorem dX12_roll_301 : decode cX12_roll 301 = .ok (.getfield 233, 3) := by decide +kernel
theorem dX12_roll_304 : decode cX12_roll 304 = .ok (.iconst 1, 1) := by decide +kernel
theorem dX12_roll_305 : decode cX12_roll 305 = .ok (.isub, 1) := by decide +kernel
theorem dX12_roll_306 : decode cX12_roll 306 = .ok (.imul, 1) := by decide +kernel
theorem dX12_roll_307 : decode cX12_roll 307 = .ok (.iload_n 3, 1) := by decide +kernel
theorem dX12_roll_308 : decode cX12_roll 308 = .ok (.iadd, 1) := by decide +kernel
theorem dX12_roll_309 : decode cX12_roll 309 = .ok (.aload_n 0, 1) := by decide +kernel
theorem dX12_roll_310 : decode cX12_roll 310 = .ok (.getfield 53, 3) := by decide +kernel
theorem dX12_roll_313 : decode cX12_roll 313 = .ok (.iload_n 3, 1) := by decide +kernel
theorem dX12_roll_314 : decode cX12_roll 314 = .ok (.iaload, 1) := by decide +kernel
theorem dX12_roll_315 : decode cX12_roll 315 = .ok (.iastore, 1) := by decide +kernel
theorem dX12_roll_316 : decode cX12_roll 316 = .ok (.iinc 3 1, 3) := by decide +kernel
theorem dX12_roll_319 : decode cX12_roll 319 = .ok (.goto (-33), 3) := by decide +kernel
theorem dX12_roll_322 : decode cX12_roll 322 = .ok (.iload_n 1, 1) := by decide +kernel
theorem dX12_roll_323 : decode cX12_roll 323 = .ok (.ifCond .ne 7, 3) := by decide +kernel
theorem dX12_roll_326 : decode cX12_roll 326 = .ok (.aload_n 0, 1) := by decide +kernel
theorem dX12_roll_327 : decode cX12_roll 327 = .ok (.invokevirtual 398, 3) := by decide +kernel
theorem dX12_roll_330 : decode cX12_roll 330 = .ok (.iload_n 2, 1) := by decide +kernel
theorem dX12_roll_331 : decode cX12_roll 331 = .ok (.ireturn, 1) := by decide +kernel
theorem dX12_rollLine_0 : decode cX12_rollLine 0 = .ok (.iconst 3, 1) := by decide +kernel
theorem dX12_rollLine_1 : decode cX12_rollLine 1 = .ok (.aload_n 0, 1) := by decide +kernel
theorem dX12_rollLine_2 : decode cX12_rollLine 2 = .ok (.getfield 401, 3) := by decide +kernel
theorem dX12_rollLine_5 : decode cX12_rollLine 5 = .ok (.imul, 1) := by decide +kernel
theorem dX12_rollLine_6 : decode cX12_rollLine 6 = .ok (.istore_n 1, 1) := by decide +kernel
theorem dX12_rollLine_7 : decode cX12_rollLine 7 = .ok (.aload_n 0, 1) := by decide +kernel
theorem dX12_rollLine_8 : decode cX12_rollLine 8 = .ok (.ldc2_w 111, 3) := by decide +kernel
theorem dX12_rollLine_11 : decode cX12_rollLine 11 = .ok (.invokevirtual 196, 3) := by decide +kernel
theorem dX12_rollLine_14 : decode cX12_rollLine 14 = .ok (.ifCond .eq 56, 3) := by decide +kernel
theorem dX12_rollLine_17 : decode cX12_rollLine 17 = .ok (.aload_n 0, 1) := by decide +kernel
theorem dX12_rollLine_18 : decode cX12_rollLine 18 = .ok (.getfield 401, 3) := by decide +kernel
theorem dX12_rollLine_21 : decode cX12_rollLine 21 = .ok (.bipush 40, 2) := by decide +kernel
theorem dX12_rollLine_23 : decode cX12_rollLine 23 = .ok (.if_icmp .ne 9, 3) := by decide +kernel
theorem dX12_rollLine_26 : decode cX12_rollLine 26 = .ok (.aload_n 0, 1) := by decide +kernel
theorem dX12_rollLine_27 : decode cX12_rollLine 27 = .ok (.iconst 4, 1) := by decide +kernel
theorem dX12_rollLine_28 : decode cX12_rollLine 28 = .ok (.invokevirtual 171, 3) := by decide +kernel
theorem dX12_rollLine_31 : decode cX12_rollLine 31 = .ok (.ireturn, 1) := by decide +kernel
theorem dX12_rollLine_32 : decode cX12_rollLine 32 = .ok (.aload_n 0, 1) := by decide +kernel
theorem dX12_rollLine_33 : decode cX12_rollLine 33 = .ok (.invokevirtual 174, 3) := by decide +kernel
theorem dX12_rollLine_36 : decode cX12_rollLine 36 = .ok (.aload_n 0, 1) := by decide +kernel
theorem dX12_rollLine_37 : decode cX12_rollLine 37 = .ok (.iconst 1, 1) := by decide +kernel
theorem dX12_rollLine_38 : decode cX12_rollLine 38 = .ok (.bipush 60, 2) := by decide +kernel
theorem dX12_rollLine_40 : decode cX12_rollLine 40 = .ok (.invokevirtual 184, 3) := by decide +kernel
theorem dX12_rollLine_43 : decode cX12_rollLine 43 = .ok (.ifCond .ne 5, 3) := by decide +kernel
theorem dX12_rollLine_46 : decode cX12_rollLine 46 = .ok (.iconst 0, 1) := by decide +kernel
theorem dX12_rollLine_47 : decode cX12_rollLine 47 = .ok (.ireturn, 1) := by decide +kernel
theorem dX12_rollLine_48 : decode cX12_rollLine 48 = .ok (.aload_n 0, 1) := by decide +kernel
theorem dX12_rollLine_49 : decode cX12_rollLine 49 = .ok (.getfield 40, 3) := by decide +kernel
theorem dX12_rollLine_52 : decode cX12_rollLine 52 = .ok (.iload_n 1, 1) := by decide +kernel
theorem dX12_rollLine_53 : decode cX12_rollLine 53 = .ok (.bipush 6, 2) := by decide +kernel
theorem dX12_rollLine_55 : decode cX12_rollLine 55 = .ok (.iastore, 1) := by decide +kernel
theorem dX12_rollLine_56 : decode cX12_rollLine 56 = .ok (.aload_n 0, 1) := by decide +kernel
theorem dX12_rollLine_57 : decode cX12_rollLine 57 = .ok (.getfield 40, 3) := by decide +kernel
theorem dX12_rollLine_60 : decode cX12_rollLine 60 = .ok (.iload_n 1, 1) := by decide +kernel
theorem dX12_rollLine_61 : decode cX12_rollLine 61 = .ok (.iconst 1, 1) := by decide +kernel
theorem dX12_rollLine_62 : decode cX12_rollLine 62 = .ok (.iadd, 1) := by decide +kernel
theorem dX12_rollLine_63 : decode cX12_rollLine 63 = .ok (.aload_n 0, 1) := by decide +kernel
theorem dX12_rollLine_64 : decode cX12_rollLine 64 = .ok (.getfield 181, 3) := by decide +kernel
theorem dX12_rollLine_67 : decode cX12_rollLine 67 = .ok (.iastore, 1) := by decide +kernel
theorem dX12_rollLine_68 : decode cX12_rollLine 68 = .ok (.iconst 1, 1) := by decide +kernel
theorem dX12_rollLine_69 : decode cX12_rollLine 69 = .ok (.ireturn, 1) := by decide +kernel
theorem dX12_rollLine_70 : decode cX12_rollLine 70 = .ok (.aload_n 0, 1) := by decide +kernel
theorem dX12_rollLine_71 : decode cX12_rollLine 71 = .ok (.bipush 9, 2) := by decide +kernel
theorem dX12_rollLine_73 : decode cX12_rollLine 73 = .ok (.aload_n 0, 1) := by decide +kernel
theorem dX12_rollLine_74 : decode cX12_rollLine 74 = .ok (.getfield 33, 3) := by decide +kernel
theorem dX12_rollLine_77 : decode cX12_rollLine 77 = .ok (.iconst 1, 1) := by decide +kernel
theorem dX12_rollLine_78 : decode cX12_rollLine 78 = .ok (.iaload, 1) := by decide +kernel
theorem dX12_rollLine_79 : decode cX12_rollLine 79 = .ok (.invokevirtual 209, 3) := by decide +kernel
theorem dX12_rollLine_82 : decode cX12_rollLine 82 = .ok (.ifCond .ne 5, 3) := by decide +kernel
theorem dX12_rollLine_85 : decode cX12_rollLine 85 = .ok (.iconst 0, 1) := by decide +kernel
theorem dX12_rollLine_86 : decode cX12_rollLine 86 = .ok (.ireturn, 1) := by decide +kernel
theorem dX12_rollLine_87 : decode cX12_rollLine 87 = .ok (.aload_n 0, 1) := by decide +kernel
theorem dX12_rollLine_88 : decode cX12_rollLine 88 = .ok (.getfield 401, 3) := by decide +kernel
theorem dX12_rollLine_91 : decode cX12_rollLine 91 = .ok (.bipush 40, 2) := by decide +kernel
theorem dX12_rollLine_93 : decode cX12_rollLine 93 = .ok (.if_icmp .ne 9, 3) := by decide +kernel
theorem dX12_rollLine_96 : decode cX12_rollLine 96 = .ok (.aload_n 0, 1) := by decide +kernel
theorem dX12_rollLine_97 : decode cX12_rollLine 97 = .ok (.iconst 4, 1) := by decide +kernel
theorem dX12_rollLine_98 : decode cX12_rollLine 98 = .ok (.invokevirtual 171, 3) := by decide +kernel
theorem dX12_rollLine_101 : decode cX12_rollLine 101 = .ok (.ireturn, 1) := by decide +kernel
theorem dX12_rollLine_102 : decode cX12_rollLine 102 = .ok (.aload_n 0, 1) := by decide +kernel
theorem dX12_rollLine_103 : decode cX12_rollLine 103 = .ok (.getfield 40, 3) := by decide +kernel
theorem dX12_rollLine_106 : decode cX12_rollLine 106 = .ok (.iload_n 1, 1) := by decide +kernel
theorem dX12_rollLine_107 : decode cX12_rollLine 107 = .ok (.iconst 1, 1) := by decide +kernel
theorem dX12_rollLine_108 : decode cX12_rollLine 108 = .ok (.iadd, 1) := by decide +kernel
theorem dX12_rollLine_109 : decode cX12_rollLine 109 = .ok (.aload_n 0, 1) := by decide +kernel
theorem dX12_rollLine_110 : decode cX12_rollLine 110 = .ok (.getfield 181, 3) := by decide +kernel
theorem dX12_rollLine_113 : decode cX12_rollLine 113 = .ok (.iastore, 1) := by decide +kernel
theorem dX12_rollLine_114 : decode cX12_rollLine 114 = .ok (.aload_n 0, 1) := by decide +kernel
theorem dX12_rollLine_115 : decode cX12_rollLine 115 = .ok (.invokevirtual 174, 3) := by decide +kernel
theorem dX12_rollLine_118 : decode cX12_rollLine 118 = .ok (.aload_n 0, 1) := by decide +kernel
theorem dX12_rollLine_119 : decode cX12_rollLine 119 = .ok (.ldc2_w 97, 3) := by decide +kernel
theorem dX12_rollLine_122 : decode cX12_rollLine 122 = .ok (.invokevirtual 196, 3) := by decide +kernel
theorem dX12_rollLine_125 : decode cX12_rollLine 125 = .ok (.ifCond .eq 7, 3) := by decide +kernel
theorem dX12_rollLine_128 : decode cX12_rollLine 128 = .ok (.iconst 0, 1) := by decide +kernel
theorem dX12_rollLine_129 : decode cX12_rollLine 129 = .ok (.goto 84, 3) := by decide +kernel
theorem dX12_rollLine_132 : decode cX12_rollLine 132 = .ok (.aload_n 0, 1) := by decide +kernel
theorem dX12_rollLine_133 : decode cX12_rollLine 133 = .ok (.ldc2_w 99, 3) := by decide +kernel
theorem dX12_rollLine_136 : decode cX12_rollLine 136 = .ok (.invokevirtual 196, 3) := by decide +kernel
theorem dX12_rollLine_139 : decode cX12_rollLine 139 = .ok (.ifCond .eq 7, 3) := by decide +kernel
theorem dX12_rollLine_142 : decode cX12_rollLine 142 = .ok (.iconst 1, 1) := by decide +kernel
theorem dX12_rollLine_143 : decode cX12_rollLine 143 = .ok (.goto 70, 3) := by decide +kernel
theorem dX12_rollLine_146 : decode cX12_rollLine 146 = .ok (.aload_n 0, 1) := by decide +kernel
theorem dX12_rollLine_147 : decode cX12_rollLine 147 = .ok (.ldc2_w 101, 3) := by decide +kernel
theorem dX12_rollLine_150 : decode cX12_rollLine 150 = .ok (.invokevirtual 196, 3) := by decide +kernel
theorem dX12_rollLine_153 : decode cX12_rollLine 153 = .ok (.ifCond .eq 7, 3) := by decide +kernel
theorem dX12_rollLine_156 : decode cX12_rollLine 156 = .ok (.iconst 2, 1) := by decide +kernel
theorem dX12_rollLine_157 : decode cX12_rollLine 157 = .ok (.goto 56, 3) := by decide +kernel
theorem dX12_rollLine_160 : decode cX12_rollLine 160 = .ok (.aload_n 0, 1) := by decide +kernel
theorem dX12_rollLine_161 : decode cX12_rollLine 161 = .ok (.ldc2_w 103, 3) := by decide +kernel
theorem dX12_rollLine_164 : decode cX12_rollLine 164 = .ok (.invokevirtual 196, 3) := by decide +kernel
theorem dX12_rollLine_167 : decode cX12_rollLine 167 = .ok (.ifCond .ne 13, 3) := by decide +kernel
theorem dX12_rollLine_170 : decode cX12_rollLine 170 = .ok (.aload_n 0, 1) := by decide +kernel
theorem dX12_rollLine_171 : decode cX12_rollLine 171 = .ok (.ldc2_w 105, 3) := by decide +kernel
theorem dX12_rollLine_174 : decode cX12_rollLine 174 = .ok (.invokevirtual 196, 3) := by decide +kernel
theorem dX12_rollLine_177 : decode cX12_rollLine 177 = .ok (.ifCond .eq 7, 3) := by decide +kernel
theorem dX12_rollLine_180 : decode cX12_rollLine 180 = .ok (.iconst 3, 1) := by decide +kernel
theorem dX12_rollLine_181 : decode cX12_rollLine 181 = .ok (.goto 32, 3) := by decide +kernel
theorem dX12_rollLine_184 : decode cX12_rollLine 184 = .ok (.aload_n 0, 1) := by decide +kernel
theorem dX12_rollLine_185 : decode cX12_rollLine 185 = .ok (.ldc2_w 107, 3) := by decide +kernel
theorem dX12_rollLine_188 : decode cX12_rollLine 188 = .ok (.invokevirtual 196, 3) := by decide +kernel
theorem dX12_rollLine_191 : decode cX12_rollLine 191 = .ok (.ifCond .eq 7, 3) := by decide +kernel
theorem dX12_rollLine_194 : decode cX12_rollLine 194 = .ok (.iconst 4, 1) := by decide +kernel
theorem dX12_rollLine_195 : decode cX12_rollLine 195 = .ok (.goto 18, 3) := by decide +kernel
theorem dX12_rollLine_198 : decode cX12_rollLine 198 = .ok (.aload_n 0, 1) := by decide +kernel
theorem dX12_rollLine_199 : decode cX12_rollLine 199 = .ok (.ldc2_w 109, 3) := by decide +kernel
theorem dX12_rollLine_202 : decode cX12_rollLine 202 = .ok (.invokevirtual 196, 3) := by decide +kernel
theorem dX12_rollLine_205 : decode cX12_rollLine 205 = .ok (.ifCond .eq 7, 3) := by decide +kernel
theorem dX12_rollLine_208 : decode cX12_rollLine 208 = .ok (.iconst 5, 1) := by decide +kernel
theorem dX12_rollLine_209 : decode cX12_rollLine 209 = .ok (.goto 4, 3) := by decide +kernel
theorem dX12_rollLine_212 : decode cX12_rollLine 212 = .ok (.iconst (-1), 1) := by decide +kernel
theorem dX12_rollLine_213 : decode cX12_rollLine 213 = .ok (.istore_n 2, 1) := by decide +kernel
theorem dX12_rollLine_214 : decode cX12_rollLine 214 = .ok (.iload_n 2, 1) := by decide +kernel
theorem dX12_rollLine_215 : decode cX12_rollLine 215 = .ok (.ifCond .ge 9, 3) := by decide +kernel
theorem dX12_rollLine_218 : decode cX12_rollLine 218 = .ok (.aload_n 0, 1) := by decide +kernel
theorem dX12_rollLine_219 : decode cX12_rollLine 219 = .ok (.iconst 1, 1) := by decide +kernel
theorem dX12_rollLine_220 : decode cX12_rollLine 220 = .ok (.invokevirtual 171, 3) := by decide +kernel
theorem dX12_rollLine_223 : decode cX12_rollLine 223 = .ok (.ireturn, 1) := by decide +kernel
theorem dX12_rollLine_224 : decode cX12_rollLine 224 = .ok (.aload_n 0, 1) := by decide +kernel
theorem dX12_rollLine_225 : decode cX12_rollLine 225 = .ok (.getfield 40, 3) := by decide +kernel
theorem dX12_rollLine_228 : decode cX12_rollLine 228 = .ok (.iload_n 1, 1) := by decide +kernel
theorem dX12_rollLine_229 : decode cX12_rollLine 229 = .ok (.iload_n 2, 1) := by decide +kernel
theorem dX12_rollLine_230 : decode cX12_rollLine 230 = .ok (.iastore, 1) := by decide +kernel
theorem dX12_rollLine_231 : decode cX12_rollLine 231 = .ok (.aload_n 0, 1) := by decide +kernel
theorem dX12_rollLine_232 : decode cX12_rollLine 232 = .ok (.getfield 40, 3) := by decide +kernel
theorem dX12_rollLine_235 : decode cX12_rollLine 235 = .ok (.iload_n 1, 1) := by decide +kernel
theorem dX12_rollLine_236 : decode cX12_rollLine 236 = .ok (.iconst 2, 1) := by decide +kernel
theorem dX12_rollLine_237 : decode cX12_rollLine 237 = .ok (.iadd, 1) := by decide +kernel
theorem dX12_rollLine_238 : decode cX12_rollLine 238 = .ok (.aload_n 0, 1) := by decide +kernel
theorem dX12_rollLine_239 : decode cX12_rollLine 239 = .ok (.ldc2_w 105, 3) := by decide +kernel
theorem dX12_rollLine_242 : decode cX12_rollLine 242 = .ok (.invokevirtual 196, 3) := by decide +kernel
theorem dX12_rollLine_245 : decode cX12_rollLine 245 = .ok (.ifCond .eq 7, 3) := by decide +kernel
theorem dX12_rollLine_248 : decode cX12_rollLine 248 = .ok (.iconst 1, 1) := by decide +kernel
theorem dX12_rollLine_249 : decode cX12_rollLine 249 = .ok (.goto 4, 3) := by decide +kernel
theorem dX12_rollLine_252 : decode cX12_rollLine 252 = .ok (.iconst 0, 1) := by decide +kernel
theorem dX12_rollLine_253 : decode cX12_rollLine 253 = .ok (.iastore, 1) := by decide +kernel
theorem dX12_rollLine_254 : decode cX12_rollLine 254 = .ok (.aload_n 0, 1) := by decide +kernel
theorem dX12_rollLine_255 : decode cX12_rollLine 255 = .ok (.invokevirtual 174, 3) := by decide +kernel
theorem dX12_rollLine_258 : decode cX12_rollLine 258 = .ok (.iload_n 2, 1) := by decide +kernel
theorem dX12_rollLine_259 : decode cX12_rollLine 259 = .ok (.iconst 3, 1) := by decide +kernel
theorem dX12_rollLine_260 : decode cX12_rollLine 260 = .ok (.if_icmp .eq 8, 3) := by decide +kernel
theorem dX12_rollLine_263 : decode cX12_rollLine 263 = .ok (.iload_n 2, 1) := by decide +kernel
theorem dX12_rollLine_264 : decode cX12_rollLine 264 = .ok (.iconst 4, 1) := by decide +kernel
theorem dX12_rollLine_265 : decode cX12_rollLine 265 = .ok (.if_icmp .ne 5, 3) := by decide +kernel
theorem dX12_rollLine_268 : decode cX12_rollLine 268 = .ok (.iconst 1, 1) := by decide +kernel
theorem dX12_rollLine_269 : decode cX12_rollLine 269 = .ok (.ireturn, 1) := by decide +kernel
theorem dX12_rollLine_270 : decode cX12_rollLine 270 = .ok (.iload_n 2, 1) := by decide +kernel
theorem dX12_rollLine_271 : decode cX12_rollLine 271 = .ok (.iconst 5, 1) := by decide +kernel
theorem dX12_rollLine_272 : decode cX12_rollLine 272 = .ok (.if_icmp .ne 15, 3) := by decide +kernel
theorem dX12_rollLine_275 : decode cX12_rollLine 275 = .ok (.aload_n 0, 1) := by decide +kernel
theorem dX12_rollLine_276 : decode cX12_rollLine 276 = .ok (.iconst 1, 1) := by decide +kernel
theorem dX12_rollLine_277 : decode cX12_rollLine 277 = .ok (.bipush 99, 2) := by decide +kernel
theorem dX12_rollLine_279 : decode cX12_rollLine 279 = .ok (.invokevirtual 184, 3) := by decide +kernel
theorem dX12_rollLine_282 : decode cX12_rollLine 282 = .ok (.ifCond .ne 42, 3) := by decide +kernel
theorem dX12_rollLine_285 : decode cX12_rollLine 285 = .ok (.iconst 0, 1) := by decide +kernel
theorem dX12_rollLine_286 : decode cX12_rollLine 286 = .ok (.ireturn, 1) := by decide +kernel
theorem dX12_rollLine_287 : decode cX12_rollLine 287 = .ok (.aload_n 0, 1) := by decide +kernel
theorem dX12_rollLine_288 : decode cX12_rollLine 288 = .ok (.iload_n 2, 1) := by decide +kernel
theorem dX12_rollLine_289 : decode cX12_rollLine 289 = .ok (.ifCond .ne 7, 3) := by decide +kernel
theorem dX12_rollLine_292 : decode cX12_rollLine 292 = .ok (.iconst 0, 1) := by decide +kernel
theorem dX12_rollLine_293 : decode cX12_rollLine 293 = .ok (.goto 5, 3) := by decide +kernel
theorem dX12_rollLine_296 : decode cX12_rollLine 296 = .ok (.bipush 9, 2) := by decide +kernel
theorem dX12_rollLine_298 : decode cX12_rollLine 298 = .ok (.aload_n 0, 1) := by decide +kernel
theorem dX12_rollLine_299 : decode cX12_rollLine 299 = .ok (.getfield 33, 3) := by decide +kernel
theorem dX12_rollLine_302 : decode cX12_rollLine 302 = .ok (.iload_n 2, 1) := by decide +kernel
theorem dX12_rollLine_303 : decode cX12_rollLine 303 = .ok (.ifCond .ne 7, 3) := by decide +kernel
theorem dX12_rollLine_306 : decode cX12_rollLine 306 = .ok (.iconst 0, 1) := by decide +kernel
theorem dX12_rollLine_307 : decode cX12_rollLine 307 = .ok (.goto 4, 3) := by decide +kernel
theorem dX12_rollLine_310 : decode cX12_rollLine 310 = .ok (.iconst 1, 1) := by decide +kernel
theorem dX12_rollLine_311 : decode cX12_rollLine 311 = .ok (.iaload, 1) := by decide +kernel
theorem dX12_rollLine_312 : decode cX12_rollLine 312 = .ok (.invokevirtual 209, 3) := by decide +kernel
theorem dX12_rollLine_315 : decode cX12_rollLine 315 = .ok (.ifCond .ne 5, 3) := by decide +kernel
theorem dX12_rollLine_318 : decode cX12_rollLine 318 = .ok (.iconst 0, 1) := by decide +kernel
theorem dX12_rollLine_319 : decode cX12_rollLine 319 = .ok (.ireturn, 1) := by decide +kernel
theorem dX12_rollLine_320 : decode cX12_rollLine 320 = .ok (.aload_n 0, 1) := by decide +kernel
theorem dX12_rollLine_321 : decode cX12_rollLine 321 = .ok (.invokevirtual 174, 3) := by decide +kernel
theorem dX12_rollLine_324 : decode cX12_rollLine 324 = .ok (.aload_n 0, 1) := by decide +kernel
theorem dX12_rollLine_325 : decode cX12_rollLine 325 = .ok (.getfield 40, 3) := by decide +kernel
theorem dX12_rollLine_328 : decode cX12_rollLine 328 = .ok (.iload_n 1, 1) := by decide +kernel
theorem dX12_rollLine_329 : decode cX12_rollLine 329 = .ok (.iconst 2, 1) := by decide +kernel
theorem dX12_rollLine_330 : decode cX12_rollLine 330 = .ok (.iadd, 1) := by decide +kernel
theorem dX12_rollLine_331 : decode cX12_rollLine 331 = .ok (.aload_n 0, 1) := by decide +kernel
theorem dX12_rollLine_332 : decode cX12_rollLine 332 = .ok (.getfield 181, 3) := by decide +kernel
theorem dX12_rollLine_335 : decode cX12_rollLine 335 = .ok (.iastore, 1) := by decide +kernel
theorem dX12_rollLine_336 : decode cX12_rollLine 336 = .ok (.iconst 1, 1) := by decide +kernel
theorem dX12_rollLine_337 : decode cX12_rollLine 337 = .ok (.ireturn, 1) := by decide +kernel
theorem dX12_rolled_0 : decode cX12_rolled 0 = .ok (.aload_n 0, 1) := by decide +kernel
theorem dX12_rolled_1 : decode cX12_rolled 1 = .ok (.iconst 0, 1) := by decide +kernel
theorem dX12_rolled_2 : decode cX12_rolled 2 = .ok (.putfield 1, 3) := by decide +kernel
theorem dX12_rolled_5 : decode cX12_rolled 5 = .ok (.aload_n 0, 1) := by decide +kernel
theorem dX12_rolled_6 : decode cX12_rolled 6 = .ok (.getfield 415, 3) := by decide +kernel
theorem dX12_rolled_9 : decode cX12_rolled 9 = .ok (.ifCond .eq 21, 3) := by decide +kernel
theorem dX12_rolled_12 : decode cX12_rolled 12 = .ok (.iload_n 1, 1) := by decide +kernel
theorem dX12_rolled_13 : decode cX12_rolled 13 = .ok (.iconst 0, 1) := by decide +kernel
theorem dX12_rolled_14 : decode cX12_rolled 14 = .ok (.iconst 3, 1) := by decide +kernel
theorem dX12_rolled_15 : decode cX12_rolled 15 = .ok (.invokestatic 177, 3) := by decide +kernel
theorem dX12_rolled_18 : decode cX12_rolled 18 = .ok (.ifCond .eq 12, 3) := by decide +kernel
theorem dX12_rolled_21 : decode cX12_rolled 21 = .ok (.aload_n 0, 1) := by decide +kernel
theorem dX12_rolled_22 : decode cX12_rolled 22 = .ok (.getfield 62, 3) := by decide +kernel
theorem dX12_rolled_25 : decode cX12_rolled 25 = .ok (.iload_n 1, 1) := by decide +kernel
theorem dX12_rolled_26 : decode cX12_rolled 26 = .ok (.iaload, 1) := by decide +kernel
theorem dX12_rolled_27 : decode cX12_rolled 27 = .ok (.goto 4, 3) := by decide +kernel
theorem dX12_rolled_30 : decode cX12_rolled 30 = .ok (.iconst (-1), 1) := by decide +kernel
theorem dX12_rolled_31 : decode cX12_rolled 31 = .ok (.ireturn, 1) := by decide +kernel
theorem dX12_said_0 : decode cX12_said 0 = .ok (.aload_n 0, 1) := by decide +kernel
theorem dX12_said_1 : decode cX12_said 1 = .ok (.iconst 0, 1) := by decide +kernel
theorem dX12_said_2 : decode cX12_said 2 = .ok (.putfield 1, 3) := by decide +kernel
theorem dX12_said_5 : decode cX12_said 5 = .ok (.aload_n 0, 1) := by decide +kernel
theorem dX12_said_6 : decode cX12_said 6 = .ok (.getfield 33, 3) := by decide +kernel
theorem dX12_said_9 : decode cX12_said 9 = .ok (.sipush 2006, 3) := by decide +kernel
theorem dX12_said_12 : decode cX12_said 12 = .ok (.iaload, 1) := by decide +kernel
theorem dX12_said_13 : decode cX12_said 13 = .ok (.ifCond .eq 8, 3) := by decide +kernel
theorem dX12_said_16 : decode cX12_said 16 = .ok (.iload_n 1, 1) := by decide +kernel
theorem dX12_said_17 : decode cX12_said 17 = .ok (.iconst (-1), 1) := by decide +kernel
theorem dX12_said_18 : decode cX12_said 18 = .ok (.if_icmp .ge 5, 3) := by decide +kernel
theorem dX12_said_21 : decode cX12_said 21 = .ok (.iconst (-1), 1) := by decide +kernel
theorem dX12_said_22 : decode cX12_said 22 = .ok (.ireturn, 1) := by decide +kernel
theorem dX12_said_23 : decode cX12_said 23 = .ok (.iconst 0, 1) := by decide +kernel
theorem dX12_said_24 : decode cX12_said 24 = .ok (.istore_n 2, 1) := by decide +kernel
theorem dX12_said_25 : decode cX12_said 25 = .ok (.iconst 0, 1) := by decide +kernel
theorem dX12_said_26 : decode cX12_said 26 = .ok (.istore_n 3, 1) := by decide +kernel
theorem dX12_said_27 : decode cX12_said 27 = .ok (.iload_n 3, 1) := by decide +kernel
theorem dX12_said_28 : decode cX12_said 28 = .ok (.aload_n 0, 1) := by decide +kernel
theorem dX12_said_29 : decode cX12_said 29 = .ok (.getfield 33, 3) := by decide +kernel
theorem dX12_said_32 : decode cX12_said 32 = .ok (.iconst 1, 1) := by decide +kernel
theorem dX12_said_33 : decode cX12_said 33 = .ok (.iaload, 1) := by decide +kernel
theorem dX12_said_34 : decode cX12_said 34 = .ok (.if_icmp .ge 30, 3) := by decide +kernel
theorem dX12_said_37 : decode cX12_said 37 = .ok (.aload_n 0, 1) := by decide +kernel
theorem dX12_said_38 : decode cX12_said 38 = .ok (.iload_n 3, 1) := by decide +kernel
theorem dX12_said_39 : decode cX12_said 39 = .ok (.invokevirtual 455, 3) := by decide +kernel
theorem dX12_said_42 : decode cX12_said 42 = .ok (.ifCond .ne 6, 3) := by decide +kernel
theorem dX12_said_45 : decode cX12_said 45 = .ok (.goto 13, 3) := by decide +kernel
theorem dX12_said_48 : decode cX12_said 48 = .ok (.iload_n 2, 1) := by decide +kernel
theorem dX12_said_49 : decode cX12_said 49 = .ok (.iload_n 1, 1) := by decide +kernel
theorem dX12_said_50 : decode cX12_said 50 = .ok (.if_icmp .ne 5, 3) := by decide +kernel
theorem dX12_said_53 : decode cX12_said 53 = .ok (.iload_n 3, 1) := by decide +kernel
theorem dX12_said_54 : decode cX12_said 54 = .ok (.ireturn, 1) := by decide +kernel
theorem dX12_said_55 : decode cX12_said 55 = .ok (.iinc 2 1, 3) := by decide +kernel
theorem dX12_said_58 : decode cX12_said 58 = .ok (.iinc 3 1, 3) := by decide +kernel
theorem dX12_said_61 : decode cX12_said 61 = .ok (.goto (-34), 3) := by decide +kernel
theorem dX12_said_64 : decode cX12_said 64 = .ok (.iload_n 1, 1) := by decide +kernel
theorem dX12_said_65 : decode cX12_said 65 = .ok (.iconst (-1), 1) := by decide +kernel
theorem dX12_said_66 : decode cX12_said 66 = .ok (.if_icmp .ne 7, 3) := by decide +kernel
theorem dX12_said_69 : decode cX12_said 69 = .ok (.iload_n 2, 1) := by decide +kernel
theorem dX12_said_70 : decode cX12_said 70 = .ok (.goto 4, 3) := by decide +kernel
theorem dX12_said_73 : decode cX12_said 73 = .ok (.iconst (-1), 1) := by decide +kernel
theorem dX12_said_74 : decode cX12_said 74 = .ok (.ireturn, 1) := by decide +kernel
theorem dX12_sell_0 : decode cX12_sell 0 = .ok (.aload_n 0, 1) := by decide +kernel
theorem dX12_sell_1 : decode cX12_sell 1 = .ok (.iconst 0, 1) := by decide +kernel
theorem dX12_sell_2 : decode cX12_sell 2 = .ok (.putfield 1, 3) := by decide +kernel
theorem dX12_sell_5 : decode cX12_sell 5 = .ok (.aload_n 0, 1) := by decide +kernel
theorem dX12_sell_6 : decode cX12_sell 6 = .ok (.iload_n 1, 1) := by decide +kernel
theorem dX12_sell_7 : decode cX12_sell 7 = .ok (.iload_n 2, 1) := by decide +kernel
theorem dX12_sell_8 : decode cX12_sell 8 = .ok (.invokevirtual 287, 3) := by decide +kernel
theorem dX12_sell_11 : decode cX12_sell 11 = .ok (.ifCond .ne 5, 3) := by decide +kernel
theorem dX12_sell_14 : decode cX12_sell 14 = .ok (.iconst (-1), 1) := by decide +kernel
theorem dX12_sell_15 : decode cX12_sell 15 = .ok (.ireturn, 1) := by decide +kernel
theorem dX12_sell_16 : decode cX12_sell 16 = .ok (.aload_n 0, 1) := by decide +kernel
theorem dX12_sell_17 : decode cX12_sell 17 = .ok (.iload_n 1, 1) := by decide +kernel
theorem dX12_sell_18 : decode cX12_sell 18 = .ok (.iload_n 2, 1) := by decide +kernel
theorem dX12_sell_19 : decode cX12_sell 19 = .ok (.invokevirtual 296, 3) := by decide +kernel
theorem dX12_sell_22 : decode cX12_sell 22 = .ok (.istore_n 3, 1) := by decide +kernel
theorem dX12_sell_23 : decode cX12_sell 23 = .ok (.iload_n 3, 1) := by decide +kernel
theorem dX12_sell_24 : decode cX12_sell 24 = .ok (.ifCond .le 5, 3) := by decide +kernel
theorem dX12_sell_27 : decode cX12_sell 27 = .ok (.iload_n 3, 1) := by decide +kernel
theorem dX12_sell_28 : decode cX12_sell 28 = .ok (.ireturn, 1) := by decide +kernel
theorem dX12_sell_29 : decode cX12_sell 29 = .ok (.aload_n 0, 1) := by decide +kernel
theorem dX12_sell_30 : decode cX12_sell 30 = .ok (.invokevirtual 280, 3) := by decide +kernel
theorem dX12_sell_33 : decode cX12_sell 33 = .ok (.aload_n 0, 1) := by decide +kernel
theorem dX12_sell_34 : decode cX12_sell 34 = .ok (.iload_n 1, 1) := by decide +kernel
theorem dX12_sell_35 : decode cX12_sell 35 = .ok (.iload_n 2, 1) := by decide +kernel
