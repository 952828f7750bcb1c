theorem dX12_ledger_59 : decode cX12_ledger 59 = .ok (.aload_n 0, 1) := by decide +kernel
theorem dX12_ledger_60 : decode cX12_ledger 60 = .ok (.getfield 33, 3) := by decide +kernel
theorem dX12_ledger_63 : decode cX12_ledger 63 = .ok (.iconst 0, 1) := by decide +kernel
theorem dX12_ledger_64 : decode cX12_ledger 64 = .ok (.iaload, 1) := by decide +kernel
theorem dX12_ledger_65 : decode cX12_ledger 65 = .ok (.if_icmp .lt 5, 3) := by decide +kernel
theorem dX12_ledger_68 : decode cX12_ledger 68 = .ok (.iconst (-1), 1) := by decide +kernel
theorem dX12_ledger_69 : decode cX12_ledger 69 = .ok (.ireturn, 1) := by decide +kernel
theorem dX12_ledger_70 : decode cX12_ledger 70 = .ok (.iinc 1 1, 3) := by decide +kernel
theorem dX12_ledger_73 : decode cX12_ledger 73 = .ok (.goto (-38), 3) := by decide +kernel
theorem dX12_ledger_76 : decode cX12_ledger 76 = .ok (.iconst 0, 1) := by decide +kernel
theorem dX12_ledger_77 : decode cX12_ledger 77 = .ok (.istore_n 1, 1) := by decide +kernel
theorem dX12_ledger_78 : decode cX12_ledger 78 = .ok (.iconst 0, 1) := by decide +kernel
theorem dX12_ledger_79 : decode cX12_ledger 79 = .ok (.istore_n 2, 1) := by decide +kernel
theorem dX12_ledger_80 : decode cX12_ledger 80 = .ok (.iload_n 2, 1) := by decide +kernel
theorem dX12_ledger_81 : decode cX12_ledger 81 = .ok (.aload_n 0, 1) := by decide +kernel
theorem dX12_ledger_82 : decode cX12_ledger 82 = .ok (.getfield 33, 3) := by decide +kernel
theorem dX12_ledger_85 : decode cX12_ledger 85 = .ok (.iconst 1, 1) := by decide +kernel
theorem dX12_ledger_86 : decode cX12_ledger 86 = .ok (.iaload, 1) := by decide +kernel
theorem dX12_ledger_87 : decode cX12_ledger 87 = .ok (.if_icmp .ge 85, 3) := by decide +kernel
theorem dX12_ledger_90 : decode cX12_ledger 90 = .ok (.iconst 1, 1) := by decide +kernel
theorem dX12_ledger_91 : decode cX12_ledger 91 = .ok (.istore_n 3, 1) := by decide +kernel
theorem dX12_ledger_92 : decode cX12_ledger 92 = .ok (.iconst 0, 1) := by decide +kernel
theorem dX12_ledger_93 : decode cX12_ledger 93 = .ok (.istore 4, 2) := by decide +kernel
theorem dX12_ledger_95 : decode cX12_ledger 95 = .ok (.iload 4, 2) := by decide +kernel
theorem dX12_ledger_97 : decode cX12_ledger 97 = .ok (.aload_n 0, 1) := by decide +kernel
theorem dX12_ledger_98 : decode cX12_ledger 98 = .ok (.getfield 18, 3) := by decide +kernel
theorem dX12_ledger_101 : decode cX12_ledger 101 = .ok (.if_icmp .ge 51, 3) := by decide +kernel
theorem dX12_ledger_104 : decode cX12_ledger 104 = .ok (.iload_n 3, 1) := by decide +kernel
theorem dX12_ledger_105 : decode cX12_ledger 105 = .ok (.ifCond .eq 39, 3) := by decide +kernel
theorem dX12_ledger_108 : decode cX12_ledger 108 = .ok (.aload_n 0, 1) := by decide +kernel
theorem dX12_ledger_109 : decode cX12_ledger 109 = .ok (.iload_n 2, 1) := by decide +kernel
theorem dX12_ledger_110 : decode cX12_ledger 110 = .ok (.iload 4, 2) := by decide +kernel
theorem dX12_ledger_112 : decode cX12_ledger 112 = .ok (.invokevirtual 332, 3) := by decide +kernel
theorem dX12_ledger_115 : decode cX12_ledger 115 = .ok (.aload_n 0, 1) := by decide +kernel
theorem dX12_ledger_116 : decode cX12_ledger 116 = .ok (.iload 4, 2) := by decide +kernel
theorem dX12_ledger_118 : decode cX12_ledger 118 = .ok (.invokevirtual 362, 3) := by decide +kernel
theorem dX12_ledger_121 : decode cX12_ledger 121 = .ok (.sipush 255, 3) := by decide +kernel
theorem dX12_ledger_124 : decode cX12_ledger 124 = .ok (.if_icmp .ne 7, 3) := by decide +kernel
theorem dX12_ledger_127 : decode cX12_ledger 127 = .ok (.iconst (-1), 1) := by decide +kernel
theorem dX12_ledger_128 : decode cX12_ledger 128 = .ok (.goto 9, 3) := by decide +kernel
theorem dX12_ledger_131 : decode cX12_ledger 131 = .ok (.aload_n 0, 1) := by decide +kernel
theorem dX12_ledger_132 : decode cX12_ledger 132 = .ok (.iload 4, 2) := by decide +kernel
theorem dX12_ledger_134 : decode cX12_ledger 134 = .ok (.invokevirtual 362, 3) := by decide +kernel
theorem dX12_ledger_137 : decode cX12_ledger 137 = .ok (.if_icmp .ne 7, 3) := by decide +kernel
theorem dX12_ledger_140 : decode cX12_ledger 140 = .ok (.iconst 1, 1) := by decide +kernel
theorem dX12_ledger_141 : decode cX12_ledger 141 = .ok (.goto 4, 3) := by decide +kernel
theorem dX12_ledger_144 : decode cX12_ledger 144 = .ok (.iconst 0, 1) := by decide +kernel
theorem dX12_ledger_145 : decode cX12_ledger 145 = .ok (.istore_n 3, 1) := by decide +kernel
theorem dX12_ledger_146 : decode cX12_ledger 146 = .ok (.iinc 4 1, 3) := by decide +kernel
theorem dX12_ledger_149 : decode cX12_ledger 149 = .ok (.goto (-54), 3) := by decide +kernel
theorem dX12_ledger_152 : decode cX12_ledger 152 = .ok (.iload_n 1, 1) := by decide +kernel
theorem dX12_ledger_153 : decode cX12_ledger 153 = .ok (.iload_n 3, 1) := by decide +kernel
theorem dX12_ledger_154 : decode cX12_ledger 154 = .ok (.ifCond .eq 9, 3) := by decide +kernel
theorem dX12_ledger_157 : decode cX12_ledger 157 = .ok (.iconst 1, 1) := by decide +kernel
theorem dX12_ledger_158 : decode cX12_ledger 158 = .ok (.iload_n 2, 1) := by decide +kernel
theorem dX12_ledger_159 : decode cX12_ledger 159 = .ok (.ishl, 1) := by decide +kernel
theorem dX12_ledger_160 : decode cX12_ledger 160 = .ok (.goto 4, 3) := by decide +kernel
theorem dX12_ledger_163 : decode cX12_ledger 163 = .ok (.iconst 0, 1) := by decide +kernel
theorem dX12_ledger_164 : decode cX12_ledger 164 = .ok (.ior, 1) := by decide +kernel
theorem dX12_ledger_165 : decode cX12_ledger 165 = .ok (.istore_n 1, 1) := by decide +kernel
theorem dX12_ledger_166 : decode cX12_ledger 166 = .ok (.iinc 2 1, 3) := by decide +kernel
theorem dX12_ledger_169 : decode cX12_ledger 169 = .ok (.goto (-89), 3) := by decide +kernel
theorem dX12_ledger_172 : decode cX12_ledger 172 = .ok (.iload_n 1, 1) := by decide +kernel
theorem dX12_ledger_173 : decode cX12_ledger 173 = .ok (.ireturn, 1) := by decide +kernel
theorem dX12_lesser_0 : decode cX12_lesser 0 = .ok (.iload_n 0, 1) := by decide +kernel
theorem dX12_lesser_1 : decode cX12_lesser 1 = .ok (.iload_n 1, 1) := by decide +kernel
theorem dX12_lesser_2 : decode cX12_lesser 2 = .ok (.if_icmp .ge 7, 3) := by decide +kernel
theorem dX12_lesser_5 : decode cX12_lesser 5 = .ok (.iload_n 0, 1) := by decide +kernel
theorem dX12_lesser_6 : decode cX12_lesser 6 = .ok (.goto 4, 3) := by decide +kernel
theorem dX12_lesser_9 : decode cX12_lesser 9 = .ok (.iload_n 1, 1) := by decide +kernel
theorem dX12_lesser_10 : decode cX12_lesser 10 = .ok (.ireturn, 1) := by decide +kernel
theorem dX12_line_0 : decode cX12_line 0 = .ok (.aload_n 0, 1) := by decide +kernel
theorem dX12_line_1 : decode cX12_line 1 = .ok (.ldc2_w 81, 3) := by decide +kernel
theorem dX12_line_4 : decode cX12_line 4 = .ok (.invokevirtual 196, 3) := by decide +kernel
theorem dX12_line_7 : decode cX12_line 7 = .ok (.ifCond .eq 64, 3) := by decide +kernel
theorem dX12_line_10 : decode cX12_line 10 = .ok (.aload_n 0, 1) := by decide +kernel
theorem dX12_line_11 : decode cX12_line 11 = .ok (.getfield 37, 3) := by decide +kernel
theorem dX12_line_14 : decode cX12_line 14 = .ok (.iconst 0, 1) := by decide +kernel
theorem dX12_line_15 : decode cX12_line 15 = .ok (.iaload, 1) := by decide +kernel
theorem dX12_line_16 : decode cX12_line 16 = .ok (.istore_n 1, 1) := by decide +kernel
theorem dX12_line_17 : decode cX12_line 17 = .ok (.iload_n 1, 1) := by decide +kernel
theorem dX12_line_18 : decode cX12_line 18 = .ok (.bipush 9, 2) := by decide +kernel
theorem dX12_line_20 : decode cX12_line 20 = .ok (.if_icmp .ne 9, 3) := by decide +kernel
theorem dX12_line_23 : decode cX12_line 23 = .ok (.aload_n 0, 1) := by decide +kernel
theorem dX12_line_24 : decode cX12_line 24 = .ok (.iconst 4, 1) := by decide +kernel
theorem dX12_line_25 : decode cX12_line 25 = .ok (.invokevirtual 171, 3) := by decide +kernel
theorem dX12_line_28 : decode cX12_line 28 = .ok (.ireturn, 1) := by decide +kernel
theorem dX12_line_29 : decode cX12_line 29 = .ok (.aload_n 0, 1) := by decide +kernel
theorem dX12_line_30 : decode cX12_line 30 = .ok (.invokevirtual 174, 3) := by decide +kernel
theorem dX12_line_33 : decode cX12_line 33 = .ok (.aload_n 0, 1) := by decide +kernel
theorem dX12_line_34 : decode cX12_line 34 = .ok (.bipush 18, 2) := by decide +kernel
theorem dX12_line_36 : decode cX12_line 36 = .ok (.iload_n 1, 1) := by decide +kernel
theorem dX12_line_37 : decode cX12_line 37 = .ok (.iadd, 1) := by decide +kernel
theorem dX12_line_38 : decode cX12_line 38 = .ok (.invokevirtual 200, 3) := by decide +kernel
theorem dX12_line_41 : decode cX12_line 41 = .ok (.ifCond .eq 16, 3) := by decide +kernel
theorem dX12_line_44 : decode cX12_line 44 = .ok (.aload_n 0, 1) := by decide +kernel
theorem dX12_line_45 : decode cX12_line 45 = .ok (.iconst 2, 1) := by decide +kernel
theorem dX12_line_46 : decode cX12_line 46 = .ok (.iload_n 1, 1) := by decide +kernel
theorem dX12_line_47 : decode cX12_line 47 = .ok (.iadd, 1) := by decide +kernel
theorem dX12_line_48 : decode cX12_line 48 = .ok (.iconst 0, 1) := by decide +kernel
theorem dX12_line_49 : decode cX12_line 49 = .ok (.bipush 99, 2) := by decide +kernel
theorem dX12_line_51 : decode cX12_line 51 = .ok (.invokevirtual 203, 3) := by decide +kernel
theorem dX12_line_54 : decode cX12_line 54 = .ok (.ifCond .ne 5, 3) := by decide +kernel
theorem dX12_line_57 : decode cX12_line 57 = .ok (.iconst 0, 1) := by decide +kernel
theorem dX12_line_58 : decode cX12_line 58 = .ok (.ireturn, 1) := by decide +kernel
theorem dX12_line_59 : decode cX12_line 59 = .ok (.aload_n 0, 1) := by decide +kernel
theorem dX12_line_60 : decode cX12_line 60 = .ok (.getfield 37, 3) := by decide +kernel
theorem dX12_line_63 : decode cX12_line 63 = .ok (.iconst 0, 1) := by decide +kernel
theorem dX12_line_64 : decode cX12_line 64 = .ok (.dup2, 1) := by decide +kernel
theorem dX12_line_65 : decode cX12_line 65 = .ok (.iaload, 1) := by decide +kernel
theorem dX12_line_66 : decode cX12_line 66 = .ok (.iconst 1, 1) := by decide +kernel
theorem dX12_line_67 : decode cX12_line 67 = .ok (.iadd, 1) := by decide +kernel
theorem dX12_line_68 : decode cX12_line 68 = .ok (.iastore, 1) := by decide +kernel
theorem dX12_line_69 : decode cX12_line 69 = .ok (.iconst 1, 1) := by decide +kernel
theorem dX12_line_70 : decode cX12_line 70 = .ok (.ireturn, 1) := by decide +kernel
theorem dX12_line_71 : decode cX12_line 71 = .ok (.aload_n 0, 1) := by decide +kernel
theorem dX12_line_72 : decode cX12_line 72 = .ok (.ldc2_w 87, 3) := by decide +kernel
theorem dX12_line_75 : decode cX12_line 75 = .ok (.invokevirtual 196, 3) := by decide +kernel
theorem dX12_line_78 : decode cX12_line 78 = .ok (.ifCond .eq 8, 3) := by decide +kernel
theorem dX12_line_81 : decode cX12_line 81 = .ok (.aload_n 0, 1) := by decide +kernel
theorem dX12_line_82 : decode cX12_line 82 = .ok (.invokevirtual 206, 3) := by decide +kernel
theorem dX12_line_85 : decode cX12_line 85 = .ok (.ireturn, 1) := by decide +kernel
theorem dX12_line_86 : decode cX12_line 86 = .ok (.aload_n 0, 1) := by decide +kernel
theorem dX12_line_87 : decode cX12_line 87 = .ok (.ldc2_w 83, 3) := by decide +kernel
theorem dX12_line_90 : decode cX12_line 90 = .ok (.invokevirtual 196, 3) := by decide +kernel
theorem dX12_line_93 : decode cX12_line 93 = .ok (.istore_n 1, 1) := by decide +kernel
theorem dX12_line_94 : decode cX12_line 94 = .ok (.iload_n 1, 1) := by decide +kernel
theorem dX12_line_95 : decode cX12_line 95 = .ok (.ifCond .ne 13, 3) := by decide +kernel
theorem dX12_line_98 : decode cX12_line 98 = .ok (.aload_n 0, 1) := by decide +kernel
theorem dX12_line_99 : decode cX12_line 99 = .ok (.ldc2_w 85, 3) := by decide +kernel
theorem dX12_line_102 : decode cX12_line 102 = .ok (.invokevirtual 196, 3) := by decide +kernel
theorem dX12_line_105 : decode cX12_line 105 = .ok (.ifCond .eq 114, 3) := by decide +kernel
theorem dX12_line_108 : decode cX12_line 108 = .ok (.aload_n 0, 1) := by decide +kernel
theorem dX12_line_109 : decode cX12_line 109 = .ok (.invokevirtual 174, 3) := by decide +kernel
theorem dX12_line_112 : decode cX12_line 112 = .ok (.aload_n 0, 1) := by decide +kernel
theorem dX12_line_113 : decode cX12_line 113 = .ok (.bipush 18, 2) := by decide +kernel
theorem dX12_line_115 : decode cX12_line 115 = .ok (.aload_n 0, 1) := by decide +kernel
theorem dX12_line_116 : decode cX12_line 116 = .ok (.getfield 37, 3) := by decide +kernel
theorem dX12_line_119 : decode cX12_line 119 = .ok (.iconst 0, 1) := by decide +kernel
theorem dX12_line_120 : decode cX12_line 120 = .ok (.iaload, 1) := by decide +kernel
theorem dX12_line_121 : decode cX12_line 121 = .ok (.invokevirtual 209, 3) := by decide +kernel
theorem dX12_line_124 : decode cX12_line 124 = .ok (.ifCond .ne 5, 3) := by decide +kernel
theorem dX12_line_127 : decode cX12_line 127 = .ok (.iconst 0, 1) := by decide +kernel
theorem dX12_line_128 : decode cX12_line 128 = .ok (.ireturn, 1) := by decide +kernel
theorem dX12_line_129 : decode cX12_line 129 = .ok (.aload_n 0, 1) := by decide +kernel
theorem dX12_line_130 : decode cX12_line 130 = .ok (.getfield 181, 3) := by decide +kernel
theorem dX12_line_133 : decode cX12_line 133 = .ok (.istore_n 2, 1) := by decide +kernel
theorem dX12_line_134 : decode cX12_line 134 = .ok (.aload_n 0, 1) := by decide +kernel
theorem dX12_line_135 : decode cX12_line 135 = .ok (.getfield 212, 3) := by decide +kernel
theorem dX12_line_138 : decode cX12_line 138 = .ok (.iload_n 1, 1) := by decide +kernel
theorem dX12_line_139 : decode cX12_line 139 = .ok (.ifCond .eq 7, 3) := by decide +kernel
theorem dX12_line_142 : decode cX12_line 142 = .ok (.iload_n 2, 1) := by decide +kernel
theorem dX12_line_143 : decode cX12_line 143 = .ok (.goto 7, 3) := by decide +kernel
theorem dX12_line_146 : decode cX12_line 146 = .ok (.bipush 9, 2) := by decide +kernel
theorem dX12_line_148 : decode cX12_line 148 = .ok (.iload_n 2, 1) := by decide +kernel
theorem dX12_line_149 : decode cX12_line 149 = .ok (.iadd, 1) := by decide +kernel
theorem dX12_line_150 : decode cX12_line 150 = .ok (.invokestatic 215, 3) := by decide +kernel
theorem dX12_line_153 : decode cX12_line 153 = .ok (.ifCond .eq 9, 3) := by decide +kernel
theorem dX12_line_156 : decode cX12_line 156 = .ok (.aload_n 0, 1) := by decide +kernel
theorem dX12_line_157 : decode cX12_line 157 = .ok (.iconst 3, 1) := by decide +kernel
theorem dX12_line_158 : decode cX12_line 158 = .ok (.invokevirtual 171, 3) := by decide +kernel
theorem dX12_line_161 : decode cX12_line 161 = .ok (.ireturn, 1) := by decide +kernel
theorem dX12_line_162 : decode cX12_line 162 = .ok (.aload_n 0, 1) := by decide +kernel
theorem dX12_line_163 : decode cX12_line 163 = .ok (.dup, 1) := by decide +kernel
theorem dX12_line_164 : decode cX12_line 164 = .ok (.getfield 212, 3) := by decide +kernel
theorem dX12_line_167 : decode cX12_line 167 = .ok (.iconst 1, 1) := by decide +kernel
theorem dX12_line_168 : decode cX12_line 168 = .ok (.iload_n 1, 1) := by decide +kernel
theorem dX12_line_169 : decode cX12_line 169 = .ok (.ifCond .eq 7, 3) := by decide +kernel
theorem dX12_line_172 : decode cX12_line 172 = .ok (.iload_n 2, 1) := by decide +kernel
theorem dX12_line_173 : decode cX12_line 173 = .ok (.goto 7, 3) := by decide +kernel
theorem dX12_line_176 : decode cX12_line 176 = .ok (.bipush 9, 2) := by decide +kernel
theorem dX12_line_178 : decode cX12_line 178 = .ok (.iload_n 2, 1) := by decide +kernel
theorem dX12_line_179 : decode cX12_line 179 = .ok (.iadd, 1) := by decide +kernel
theorem dX12_line_180 : decode cX12_line 180 = .ok (.ishl, 1) := by decide +kernel
theorem dX12_line_181 : decode cX12_line 181 = .ok (.ior, 1) := by decide +kernel
theorem dX12_line_182 : decode cX12_line 182 = .ok (.putfield 212, 3) := by decide +kernel
theorem dX12_line_185 : decode cX12_line 185 = .ok (.aload_n 0, 1) := by decide +kernel
theorem dX12_line_186 : decode cX12_line 186 = .ok (.invokevirtual 174, 3) := by decide +kernel
theorem dX12_line_189 : decode cX12_line 189 = .ok (.iload_n 1, 1) := by decide +kernel
theorem dX12_line_190 : decode cX12_line 190 = .ok (.ifCond .eq 17, 3) := by decide +kernel
theorem dX12_line_193 : decode cX12_line 193 = .ok (.aload_n 0, 1) := by decide +kernel
theorem dX12_line_194 : decode cX12_line 194 = .ok (.bipush 11, 2) := by decide +kernel
theorem dX12_line_196 : decode cX12_line 196 = .ok (.iload_n 2, 1) := by decide +kernel
theorem dX12_line_197 : decode cX12_line 197 = .ok (.iadd, 1) := by decide +kernel
theorem dX12_line_198 : decode cX12_line 198 = .ok (.iconst 0, 1) := by decide +kernel
theorem dX12_line_199 : decode cX12_line 199 = .ok (.bipush 99, 2) := by decide +kernel
theorem dX12_line_201 : decode cX12_line 201 = .ok (.invokevirtual 203, 3) := by decide +kernel
theorem dX12_line_204 : decode cX12_line 204 = .ok (.goto 14, 3) := by decide +kernel
theorem dX12_line_207 : decode cX12_line 207 = .ok (.aload_n 0, 1) := by decide +kernel
theorem dX12_line_208 : decode cX12_line 208 = .ok (.bipush 20, 2) := by decide +kernel
theorem dX12_line_210 : decode cX12_line 210 = .ok (.iload_n 2, 1) := by decide +kernel
theorem dX12_line_211 : decode cX12_line 211 = .ok (.iadd, 1) := by decide +kernel
theorem dX12_line_212 : decode cX12_line 212 = .ok (.iconst 1, 1) := by decide +kernel
theorem dX12_line_213 : decode cX12_line 213 = .ok (.bipush 9, 2) := by decide +kernel
theorem dX12_line_215 : decode cX12_line 215 = .ok (.invokevirtual 203, 3) := by decide +kernel
theorem dX12_line_218 : decode cX12_line 218 = .ok (.ireturn, 1) := by decide +kernel
theorem dX12_line_219 : decode cX12_line 219 = .ok (.aload_n 0, 1) := by decide +kernel
theorem dX12_line_220 : decode cX12_line 220 = .ok (.ldc2_w 91, 3) := by decide +kernel
theorem dX12_line_223 : decode cX12_line 223 = .ok (.invokevirtual 196, 3) := by decide +kernel
theorem dX12_line_226 : decode cX12_line 226 = .ok (.ifCond .eq 7, 3) := by decide +kernel
theorem dX12_line_229 : decode cX12_line 229 = .ok (.iconst 0, 1) := by decide +kernel
theorem dX12_line_230 : decode cX12_line 230 = .ok (.goto 32, 3) := by decide +kernel
theorem dX12_line_233 : decode cX12_line 233 = .ok (.aload_n 0, 1) := by decide +kernel
theorem dX12_line_234 : decode cX12_line 234 = .ok (.ldc2_w 93, 3) := by decide +kernel
theorem dX12_line_237 : decode cX12_line 237 = .ok (.invokevirtual 196, 3) := by decide +kernel
theorem dX12_line_240 : decode cX12_line 240 = .ok (.ifCond .eq 7, 3) := by decide +kernel
theorem dX12_line_243 : decode cX12_line 243 = .ok (.iconst 1, 1) := by decide +kernel
theorem dX12_line_244 : decode cX12_line 244 = .ok (.goto 18, 3) := by decide +kernel
theorem dX12_line_247 : decode cX12_line 247 = .ok (.aload_n 0, 1) := by decide +kernel
theorem dX12_line_248 : decode cX12_line 248 = .ok (.ldc2_w 95, 3) := by decide +kernel
theorem dX12_line_251 : decode cX12_line 251 = .ok (.invokevirtual 196, 3) := by decide +kernel
theorem dX12_line_254 : decode cX12_line 254 = .ok (.ifCond .eq 7, 3) := by decide +kernel
theorem dX12_line_257 : decode cX12_line 257 = .ok (.iconst 2, 1) := by decide +kernel
theorem dX12_line_258 : decode cX12_line 258 = .ok (.goto 4, 3) := by decide +kernel
theorem dX12_line_261 : decode cX12_line 261 = .ok (.iconst (-1), 1) := by decide +kernel
theorem dX12_line_262 : decode cX12_line 262 = .ok (.istore_n 2, 1) := by decide +kernel
theorem dX12_line_263 : decode cX12_line 263 = .ok (.iload_n 2, 1) := by decide +kernel
theorem dX12_line_264 : decode cX12_line 264 = .ok (.ifCond .ge 9, 3) := by decide +kernel
theorem dX12_line_267 : decode cX12_line 267 = .ok (.aload_n 0, 1) := by decide +kernel
theorem dX12_line_268 : decode cX12_line 268 = .ok (.iconst 1, 1) := by decide +kernel
theorem dX12_line_269 : decode cX12_line 269 = .ok (.invokevirtual 171, 3) := by decide +kernel
theorem dX12_line_272 : decode cX12_line 272 = .ok (.ireturn, 1) := by decide +kernel
theorem dX12_line_273 : decode cX12_line 273 = .ok (.aload_n 0, 1) := by decide +kernel
theorem dX12_line_274 : decode cX12_line 274 = .ok (.invokevirtual 174, 3) := by decide +kernel
theorem dX12_line_277 : decode cX12_line 277 = .ok (.aload_n 0, 1) := by decide +kernel
theorem dX12_line_278 : decode cX12_line 278 = .ok (.bipush 27, 2) := by decide +kernel
theorem dX12_line_280 : decode cX12_line 280 = .ok (.aload_n 0, 1) := by decide +kernel
theorem dX12_line_281 : decode cX12_line 281 = .ok (.getfield 37, 3) := by decide +kernel
theorem dX12_line_284 : decode cX12_line 284 = .ok (.iconst 1, 1) := by decide +kernel
theorem dX12_line_285 : decode cX12_line 285 = .ok (.iaload, 1) := by decide +kernel
theorem dX12_line_286 : decode cX12_line 286 = .ok (.invokevirtual 209, 3) := by decide +kernel
theorem dX12_line_289 : decode cX12_line 289 = .ok (.ifCond .ne 5, 3) := by decide +kernel
theorem dX12_line_292 : decode cX12_line 292 = .ok (.iconst 0, 1) := by decide +kernel
theorem dX12_line_293 : decode cX12_line 293 = .ok (.ireturn, 1) := by decide +kernel
theorem dX12_line_294 : decode cX12_line 294 = .ok (.aload_n 0, 1) := by decide +kernel
theorem dX12_line_295 : decode cX12_line 295 = .ok (.getfield 181, 3) := by decide +kernel
theorem dX12_line_298 : decode cX12_line 298 = .ok (.istore_n 3, 1) := by decide +kernel
theorem dX12_line_299 : decode cX12_line 299 = .ok (.iload_n 2, 1) := by decide +kernel
theorem dX12_line_300 : decode cX12_line 300 = .ok (.ifCond .ne 15, 3) := by decide +kernel
theorem dX12_line_303 : decode cX12_line 303 = .ok (.aload_n 0, 1) := by decide +kernel
theorem dX12_line_304 : decode cX12_line 304 = .ok (.getfield 37, 3) := by decide +kernel
theorem dX12_line_307 : decode cX12_line 307 = .ok (.bipush 47, 2) := by decide +kernel
theorem dX12_line_309 : decode cX12_line 309 = .ok (.iload_n 3, 1) := by decide +kernel
theorem dX12_line_310 : decode cX12_line 310 = .ok (.iadd, 1) := by decide +kernel
theorem dX12_line_311 : decode cX12_line 311 = .ok (.iaload, 1) := by decide +kernel
theorem dX12_line_312 : decode cX12_line 312 = .ok (.ifCond .gt 21, 3) := by decide +kernel
theorem dX12_line_315 : decode cX12_line 315 = .ok (.iload_n 2, 1) := by decide +kernel
theorem dX12_line_316 : decode cX12_line 316 = .ok (.iconst 2, 1) := by decide +kernel
theorem dX12_line_317 : decode cX12_line 317 = .ok (.if_icmp .ne 22, 3) := by decide +kernel
theorem dX12_line_320 : decode cX12_line 320 = .ok (.aload_n 0, 1) := by decide +kernel
theorem dX12_line_321 : decode cX12_line 321 = .ok (.getfield 37, 3) := by decide +kernel
theorem dX12_line_324 : decode cX12_line 324 = .ok (.sipush 137, 3) := by decide +kernel
theorem dX12_line_327 : decode cX12_line 327 = .ok (.iload_n 3, 1) := by decide +kernel
theorem dX12_line_328 : decode cX12_line 328 = .ok (.iadd, 1) := by decide +kernel
theorem dX12_line_329 : decode cX12_line 329 = .ok (.iaload, 1) := by decide +kernel
theorem dX12_line_330 : decode cX12_line 330 = .ok (.ifCond .le 9, 3) := by decide +kernel
theorem dX12_line_333 : decode cX12_line 333 = .ok (.aload_n 0, 1) := by decide +kernel
theorem dX12_line_334 : decode cX12_line 334 = .ok (.iconst 3, 1) := by decide +kernel
theorem dX12_line_335 : decode cX12_line 335 = .ok (.invokevirtual 171, 3) := by decide +kernel
theorem dX12_line_338 : decode cX12_line 338 = .ok (.ireturn, 1) := by decide +kernel
theorem dX12_line_339 : decode cX12_line 339 = .ok (.aload_n 0, 1) := by decide +kernel
theorem dX12_line_340 : decode cX12_line 340 = .ok (.invokevirtual 174, 3) := by decide +kernel
theorem dX12_line_343 : decode cX12_line 343 = .ok (.iload_n 2, 1) := by decide +kernel
theorem dX12_line_344 : decode cX12_line 344 = .ok (.iconst 2, 1) := by decide +kernel
theorem dX12_line_345 : decode cX12_line 345 = .ok (.if_icmp .ne 34, 3) := by decide +kernel
theorem dX12_line_348 : decode cX12_line 348 = .ok (.aload_n 0, 1) := by decide +kernel
theorem dX12_line_349 : decode cX12_line 349 = .ok (.iconst 0, 1) := by decide +kernel
theorem dX12_line_350 : decode cX12_line 350 = .ok (.sipush 199, 3) := by decide +kernel
theorem dX12_line_353 : decode cX12_line 353 = .ok (.invokevirtual 184, 3) := by decide +kernel
theorem dX12_line_356 : decode cX12_line 356 = .ok (.ifCond .ne 5, 3) := by decide +kernel
theorem dX12_line_359 : decode cX12_line 359 = .ok (.iconst 0, 1) := by decide +kernel
theorem dX12_line_360 : decode cX12_line 360 = .ok (.ireturn, 1) := by decide +kernel
theorem dX12_line_361 : decode cX12_line 361 = .ok (.aload_n 0, 1) := by decide +kernel
theorem dX12_line_362 : decode cX12_line 362 = .ok (.getfield 37, 3) := by decide +kernel
theorem dX12_line_365 : decode cX12_line 365 = .ok (.sipush 137, 3) := by decide +kernel
theorem dX12_line_368 : decode cX12_line 368 = .ok (.iload_n 3, 1) := by decide +kernel
theorem dX12_line_369 : decode cX12_line 369 = .ok (.iadd, 1) := by decide +kernel
theorem dX12_line_370 : decode cX12_line 370 = .ok (.aload_n 0, 1) := by decide +kernel
theorem dX12_line_371 : decode cX12_line 371 = .ok (.getfield 181, 3) := by decide +kernel
theorem dX12_line_374 : decode cX12_line 374 = .ok (.iconst 1, 1) := by decide +kernel
theorem dX12_line_375 : decode cX12_line 375 = .ok (.iadd, 1) := by decide +kernel
theorem dX12_line_376 : decode cX12_line 376 = .ok (.iastore, 1) := by decide +kernel
theorem dX12_line_377 : decode cX12_line 377 = .ok (.iconst 1, 1) := by decide +kernel
theorem dX12_line_378 : decode cX12_line 378 = .ok (.ireturn, 1) := by decide +kernel
theorem dX12_line_379 : decode cX12_line 379 = .ok (.aload_n 0, 1) := by decide +kernel
theorem dX12_line_380 : decode cX12_line 380 = .ok (.bipush 18, 2) := by decide +kernel
theorem dX12_line_382 : decode cX12_line 382 = .ok (.aload_n 0, 1) := by decide +kernel
theorem dX12_line_383 : decode cX12_line 383 = .ok (.getfield 37, 3) := by decide +kernel
theorem dX12_line_386 : decode cX12_line 386 = .ok (.iconst 0, 1) := by decide +kernel
theorem dX12_line_387 : decode cX12_line 387 = .ok (.iaload, 1) := by decide +kernel
theorem dX12_line_388 : decode cX12_line 388 = .ok (.invokevirtual 209, 3) := by decide +kernel
theorem dX12_line_391 : decode cX12_line 391 = .ok (.ifCond .ne 5, 3) := by decide +kernel
theorem dX12_line_394 : decode cX12_line 394 = .ok (.iconst 0, 1) := by decide +kernel
theorem dX12_line_395 : decode cX12_line 395 = .ok (.ireturn, 1) := by decide +kernel
theorem dX12_line_396 : decode cX12_line 396 = .ok (.aload_n 0, 1) := by decide +kernel
theorem dX12_line_397 : decode cX12_line 397 = .ok (.getfield 181, 3) := by decide +kernel
theorem dX12_line_400 : decode cX12_line 400 = .ok (.istore 4, 2) := by decide +kernel
theorem dX12_line_402 : decode cX12_line 402 = .ok (.iload_n 2, 1) := by decide +kernel
theorem dX12_line_403 : decode cX12_line 403 = .ok (.iconst 1, 1) := by decide +kernel
theorem dX12_line_404 : decode cX12_line 404 = .ok (.if_icmp .ne 27, 3) := by decide +kernel
theorem dX12_line_407 : decode cX12_line 407 = .ok (.aload_n 0, 1) := by decide +kernel
theorem dX12_line_408 : decode cX12_line 408 = .ok (.getfield 37, 3) := by decide +kernel
theorem dX12_line_411 : decode cX12_line 411 = .ok (.bipush 56, 2) := by decide +kernel
theorem dX12_line_413 : decode cX12_line 413 = .ok (.bipush 9, 2) := by decide +kernel
theorem dX12_line_415 : decode cX12_line 415 = .ok (.iload_n 3, 1) := by decide +kernel
theorem dX12_line_416 : decode cX12_line 416 = .ok (.imul, 1) := by decide +kernel
theorem dX12_line_417 : decode cX12_line 417 = .ok (.iadd, 1) := by decide +kernel
theorem dX12_line_418 : decode cX12_line 418 = .ok (.iload 4, 2) := by decide +kernel
theorem dX12_line_420 : decode cX12_line 420 = .ok (.iadd, 1) := by decide +kernel
theorem dX12_line_421 : decode cX12_line 421 = .ok (.iaload, 1) := by decide +kernel
theorem dX12_line_422 : decode cX12_line 422 = .ok (.ifCond .le 9, 3) := by decide +kernel
theorem dX12_line_425 : decode cX12_line 425 = .ok (.aload_n 0, 1) := by decide +kernel
theorem dX12_line_426 : decode cX12_line 426 = .ok (.iconst 3, 1) := by decide +kernel
theorem dX12_line_427 : decode cX12_line 427 = .ok (.invokevirtual 171, 3) := by decide +kernel
theorem dX12_line_430 : decode cX12_line 430 = .ok (.ireturn, 1) := by decide +kernel
theorem dX12_line_431 : decode cX12_line 431 = .ok (.aload_n 0, 1) := by decide +kernel
theorem dX12_line_432 : decode cX12_line 432 = .ok (.invokevirtual 174, 3) := by decide +kernel
theorem dX12_line_435 : decode cX12_line 435 = .ok (.iload_n 2, 1) := by decide +kernel
theorem dX12_line_436 : decode cX12_line 436 = .ok (.iconst 1, 1) := by decide +kernel
theorem dX12_line_437 : decode cX12_line 437 = .ok (.if_icmp .ne 21, 3) := by decide +kernel
theorem dX12_line_440 : decode cX12_line 440 = .ok (.aload_n 0, 1) := by decide +kernel
theorem dX12_line_441 : decode cX12_line 441 = .ok (.bipush 56, 2) := by decide +kernel
theorem dX12_line_443 : decode cX12_line 443 = .ok (.bipush 9, 2) := by decide +kernel
theorem dX12_line_445 : decode cX12_line 445 = .ok (.iload_n 3, 1) := by decide +kernel
theorem dX12_line_446 : decode cX12_line 446 = .ok (.imul, 1) := by decide +kernel
theorem dX12_line_447 : decode cX12_line 447 = .ok (.iadd, 1) := by decide +kernel
theorem dX12_line_448 : decode cX12_line 448 = .ok (.iload 4, 2) := by decide +kernel
theorem dX12_line_450 : decode cX12_line 450 = .ok (.iadd, 1) := by decide +kernel
theorem dX12_line_451 : decode cX12_line 451 = .ok (.iconst 1, 1) := by decide +kernel
theorem dX12_line_452 : decode cX12_line 452 = .ok (.bipush 99, 2) := by decide +kernel
theorem dX12_line_454 : decode cX12_line 454 = .ok (.invokevirtual 203, 3) := by decide +kernel
theorem dX12_line_457 : decode cX12_line 457 = .ok (.ireturn, 1) := by decide +kernel
theorem dX12_line_458 : decode cX12_line 458 = .ok (.aload_n 0, 1) := by decide +kernel
theorem dX12_line_459 : decode cX12_line 459 = .ok (.getfield 37, 3) := by decide +kernel
theorem dX12_line_462 : decode cX12_line 462 = .ok (.bipush 47, 2) := by decide +kernel
theorem dX12_line_464 : decode cX12_line 464 = .ok (.iload_n 3, 1) := by decide +kernel
theorem dX12_line_465 : decode cX12_line 465 = .ok (.iadd, 1) := by decide +kernel
theorem dX12_line_466 : decode cX12_line 466 = .ok (.iload 4, 2) := by decide +kernel
theorem dX12_line_468 : decode cX12_line 468 = .ok (.iconst 1, 1) := by decide +kernel
theorem dX12_line_469 : decode cX12_line 469 = .ok (.iadd, 1) := by decide +kernel
theorem dX12_line_470 : decode cX12_line 470 = .ok (.iastore, 1) := by decide +kernel
theorem dX12_line_471 : decode cX12_line 471 = .ok (.iconst 1, 1) := by decide +kernel
theorem dX12_line_472 : decode cX12_line 472 = .ok (.ireturn, 1) := by decide +kernel
theorem dX12_livesLine_0 : decode cX12_livesLine 0 = .ok (.iload_n 1, 1) := by decide +kernel
theorem dX12_livesLine_1 : decode cX12_livesLine 1 = .ok (.tableswitch 92 0 5 #[39, 48, 57, 66, 75, 83], 39) := by decide +kernel
theorem dX12_livesLine_40 : decode cX12_livesLine 40 = .ok (.aload_n 0, 1) := by decide +kernel
theorem dX12_livesLine_41 : decode cX12_livesLine 41 = .ok (.iload_n 2, 1) := by decide +kernel
theorem dX12_livesLine_42 : decode cX12_livesLine 42 = .ok (.iload_n 3, 1) := by decide +kernel
theorem dX12_livesLine_43 : decode cX12_livesLine 43 = .ok (.invokevirtual 283, 3) := by decide +kernel
theorem dX12_livesLine_46 : decode cX12_livesLine 46 = .ok (.goto 53, 3) := by decide +kernel
theorem dX12_livesLine_49 : decode cX12_livesLine 49 = .ok (.aload_n 0, 1) := by decide +kernel
theorem dX12_livesLine_50 : decode cX12_livesLine 50 = .ok (.iload_n 2, 1) := by decide +kernel
theorem dX12_livesLine_51 : decode cX12_livesLine 51 = .ok (.iload_n 3, 1) := by decide +kernel
theorem dX12_livesLine_52 : decode cX12_livesLine 52 = .ok (.invokevirtual 293, 3) := by decide +kernel
theorem dX12_livesLine_55 : decode cX12_livesLine 55 = .ok (.goto 44, 3) := by decide +kernel
theorem dX12_livesLine_58 : decode cX12_livesLine 58 = .ok (.aload_n 0, 1) := by decide +kernel
theorem dX12_livesLine_59 : decode cX12_livesLine 59 = .ok (.iload_n 2, 1) := by decide +kernel
theorem dX12_livesLine_60 : decode cX12_livesLine 60 = .ok (.iload_n 3, 1) := by decide +kernel
theorem dX12_livesLine_61 : decode cX12_livesLine 61 = .ok (.invokevirtual 299, 3) := by decide +kernel
theorem dX12_livesLine_64 : decode cX12_livesLine 64 = .ok (.goto 35, 3) := by decide +kernel
theorem dX12_livesLine_67 : decode cX12_livesLine 67 = .ok (.aload_n 0, 1) := by decide +kernel
theorem dX12_livesLine_68 : decode cX12_livesLine 68 = .ok (.iload_n 2, 1) := by decide +kernel
theorem dX12_livesLine_69 : decode cX12_livesLine 69 = .ok (.iload_n 3, 1) := by decide +kernel
theorem dX12_livesLine_70 : decode cX12_livesLine 70 = .ok (.invokevirtual 302, 3) := by decide +kernel
theorem dX12_livesLine_73 : decode cX12_livesLine 73 = .ok (.goto 26, 3) := by decide +kernel
theorem dX12_livesLine_76 : decode cX12_livesLine 76 = .ok (.aload_n 0, 1) := by decide +kernel
theorem dX12_livesLine_77 : decode cX12_livesLine 77 = .ok (.iload_n 2, 1) := by decide +kernel
theorem dX12_livesLine_78 : decode cX12_livesLine 78 = .ok (.invokevirtual 308, 3) := by decide +kernel
theorem dX12_livesLine_81 : decode cX12_livesLine 81 = .ok (.goto 18, 3) := by decide +kernel
theorem dX12_livesLine_84 : decode cX12_livesLine 84 = .ok (.aload_n 0, 1) := by decide +kernel
theorem dX12_livesLine_85 : decode cX12_livesLine 85 = .ok (.iload_n 2, 1) := by decide +kernel
theorem dX12_livesLine_86 : decode cX12_livesLine 86 = .ok (.iload_n 3, 1) := by decide +kernel
theorem dX12_livesLine_87 : decode cX12_livesLine 87 = .ok (.invokevirtual 314, 3) := by decide +kernel
theorem dX12_livesLine_90 : decode cX12_livesLine 90 = .ok (.goto 9, 3) := by decide +kernel
theorem dX12_livesLine_93 : decode cX12_livesLine 93 = .ok (.aload_n 0, 1) := by decide +kernel
theorem dX12_livesLine_94 : decode cX12_livesLine 94 = .ok (.iload_n 2, 1) := by decide +kernel
theorem dX12_livesLine_95 : decode cX12_livesLine 95 = .ok (.invokevirtual 326, 3) := by decide +kernel
theorem dX12_livesLine_98 : decode cX12_livesLine 98 = .ok (.pop, 1) := by decide +kernel
theorem dX12_livesLine_99 : decode cX12_livesLine 99 = .ok (.return_, 1) := by decide +kernel
theorem dX12_looksAt_0 : decode cX12_looksAt 0 = .ok (.aload_n 0, 1) := by decide +kernel
theorem dX12_looksAt_1 : decode cX12_looksAt 1 = .ok (.invokevirtual 188, 3) := by decide +kernel
theorem dX12_looksAt_4 : decode cX12_looksAt 4 = .ok (.ifCond .ne 9, 3) := by decide +kernel
theorem dX12_looksAt_7 : decode cX12_looksAt 7 = .ok (.aload_n 0, 1) := by decide +kernel
theorem dX12_looksAt_8 : decode cX12_looksAt 8 = .ok (.iconst 1, 1) := by decide +kernel
theorem dX12_looksAt_9 : decode cX12_looksAt 9 = .ok (.invokevirtual 171, 3) := by decide +kernel
theorem dX12_looksAt_12 : decode cX12_looksAt 12 = .ok (.ireturn, 1) := by decide +kernel
theorem dX12_looksAt_13 : decode cX12_looksAt 13 = .ok (.aload_n 0, 1) := by decide +kernel
theorem dX12_looksAt_14 : decode cX12_looksAt 14 = .ok (.aload_n 0, 1) := by decide +kernel
theorem dX12_looksAt_15 : decode cX12_looksAt 15 = .ok (.iload_n 1, 1) := by decide +kernel
theorem dX12_looksAt_16 : decode cX12_looksAt 16 = .ok (.iload_n 2, 1) := by decide +kernel
theorem dX12_looksAt_17 : decode cX12_looksAt 17 = .ok (.invokevirtual 192, 3) := by decide +kernel
theorem dX12_looksAt_20 : decode cX12_looksAt 20 = .ok (.putfield 181, 3) := by decide +kernel
theorem dX12_looksAt_23 : decode cX12_looksAt 23 = .ok (.aload_n 0, 1) := by decide +kernel
theorem dX12_looksAt_24 : decode cX12_looksAt 24 = .ok (.getfield 181, 3) := by decide +kernel
theorem dX12_looksAt_27 : decode cX12_looksAt 27 = .ok (.ifCond .ge 11, 3) := by decide +kernel
theorem dX12_looksAt_30 : decode cX12_looksAt 30 = .ok (.aload_n 0, 1) := by decide +kernel
theorem dX12_looksAt_31 : decode cX12_looksAt 31 = .ok (.iconst 3, 1) := by decide +kernel
theorem dX12_looksAt_32 : decode cX12_looksAt 32 = .ok (.invokevirtual 171, 3) := by decide +kernel
theorem dX12_looksAt_35 : decode cX12_looksAt 35 = .ok (.ifCond .eq 7, 3) := by decide +kernel
theorem dX12_looksAt_38 : decode cX12_looksAt 38 = .ok (.iconst 1, 1) := by decide +kernel
