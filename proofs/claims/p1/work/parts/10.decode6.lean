theorem dX12_sentence_49 : decode cX12_sentence 49 = .ok (.ifCond .eq 83, 3) := by decide +kernel
theorem dX12_sentence_52 : decode cX12_sentence 52 = .ok (.aload_n 0, 1) := by decide +kernel
theorem dX12_sentence_53 : decode cX12_sentence 53 = .ok (.getfield 436, 3) := by decide +kernel
theorem dX12_sentence_56 : decode cX12_sentence 56 = .ok (.ifCond .eq 45, 3) := by decide +kernel
theorem dX12_sentence_101 : decode cX12_sentence 101 = .ok (.aload_n 0, 1) := by decide +kernel
theorem dX12_sentence_102 : decode cX12_sentence 102 = .ok (.getfield 436, 3) := by decide +kernel
theorem dX12_sentence_105 : decode cX12_sentence 105 = .ok (.ifCond .eq 13, 3) := by decide +kernel
theorem dX12_sentence_118 : decode cX12_sentence 118 = .ok (.aload_n 0, 1) := by decide +kernel
theorem dX12_sentence_119 : decode cX12_sentence 119 = .ok (.invokevirtual 448, 3) := by decide +kernel
theorem dX12_sentence_122 : decode cX12_sentence 122 = .ok (.ifCond .ne (-74), 3) := by decide +kernel
theorem dX12_sentence_125 : decode cX12_sentence 125 = .ok (.iconst (-1), 1) := by decide +kernel
theorem dX12_sentence_126 : decode cX12_sentence 126 = .ok (.aload_n 0, 1) := by decide +kernel
theorem dX12_sentence_127 : decode cX12_sentence 127 = .ok (.getfield 165, 3) := by decide +kernel
theorem dX12_sentence_130 : decode cX12_sentence 130 = .ok (.isub, 1) := by decide +kernel
theorem dX12_sentence_131 : decode cX12_sentence 131 = .ok (.ireturn, 1) := by decide +kernel
theorem dX12_soul_0 : decode cX12_soul 0 = .ok (.aload_n 0, 1) := by decide +kernel
theorem dX12_soul_1 : decode cX12_soul 1 = .ok (.aload_n 0, 1) := by decide +kernel
theorem dX12_soul_2 : decode cX12_soul 2 = .ok (.iload_n 1, 1) := by decide +kernel
theorem dX12_soul_3 : decode cX12_soul 3 = .ok (.invokevirtual 236, 3) := by decide +kernel
theorem dX12_soul_6 : decode cX12_soul 6 = .ok (.ifCond .eq 13, 3) := by decide +kernel
theorem dX12_soul_19 : decode cX12_soul 19 = .ok (.iconst 1, 1) := by decide +kernel
theorem dX12_soul_20 : decode cX12_soul 20 = .ok (.goto 4, 3) := by decide +kernel
theorem dX12_soul_24 : decode cX12_soul 24 = .ok (.invokevirtual 252, 3) := by decide +kernel
theorem dX12_soul_27 : decode cX12_soul 27 = .ok (.ifCond .eq 5, 3) := by decide +kernel
theorem dX12_soul_30 : decode cX12_soul 30 = .ok (.iconst 0, 1) := by decide +kernel
theorem dX12_soul_31 : decode cX12_soul 31 = .ok (.ireturn, 1) := by decide +kernel
theorem dX12_sum_0 : decode cX12_sum 0 = .ok (.iconst 0, 1) := by decide +kernel
theorem dX12_sum_1 : decode cX12_sum 1 = .ok (.istore_n 2, 1) := by decide +kernel
theorem dX12_sum_2 : decode cX12_sum 2 = .ok (.iconst 0, 1) := by decide +kernel
theorem dX12_sum_3 : decode cX12_sum 3 = .ok (.istore_n 3, 1) := by decide +kernel
theorem dX12_sum_4 : decode cX12_sum 4 = .ok (.iload_n 3, 1) := by decide +kernel
theorem dX12_sum_5 : decode cX12_sum 5 = .ok (.bipush 9, 2) := by decide +kernel
theorem dX12_sum_7 : decode cX12_sum 7 = .ok (.if_icmp .ge 20, 3) := by decide +kernel
theorem dX12_sum_10 : decode cX12_sum 10 = .ok (.iload_n 2, 1) := by decide +kernel
theorem dX12_sum_11 : decode cX12_sum 11 = .ok (.aload_n 0, 1) := by decide +kernel
theorem dX12_sum_12 : decode cX12_sum 12 = .ok (.getfield 33, 3) := by decide +kernel
theorem dX12_sum_15 : decode cX12_sum 15 = .ok (.iload_n 1, 1) := by decide +kernel
theorem dX12_sum_16 : decode cX12_sum 16 = .ok (.iload_n 3, 1) := by decide +kernel
theorem dX12_sum_17 : decode cX12_sum 17 = .ok (.iadd, 1) := by decide +kernel
theorem dX12_sum_18 : decode cX12_sum 18 = .ok (.iaload, 1) := by decide +kernel
theorem dX12_sum_19 : decode cX12_sum 19 = .ok (.iadd, 1) := by decide +kernel
theorem dX12_sum_20 : decode cX12_sum 20 = .ok (.istore_n 2, 1) := by decide +kernel
theorem dX12_sum_21 : decode cX12_sum 21 = .ok (.iinc 3 1, 3) := by decide +kernel
theorem dX12_sum_24 : decode cX12_sum 24 = .ok (.goto (-20), 3) := by decide +kernel
theorem dX12_sum_27 : decode cX12_sum 27 = .ok (.iload_n 2, 1) := by decide +kernel
theorem dX12_sum_28 : decode cX12_sum 28 = .ok (.ireturn, 1) := by decide +kernel
theorem dX12_swap_0 : decode cX12_swap 0 = .ok (.aload_n 0, 1) := by decide +kernel
theorem dX12_swap_1 : decode cX12_swap 1 = .ok (.iconst 0, 1) := by decide +kernel
theorem dX12_swap_2 : decode cX12_swap 2 = .ok (.putfield 1, 3) := by decide +kernel
theorem dX12_swap_5 : decode cX12_swap 5 = .ok (.aload_n 0, 1) := by decide +kernel
theorem dX12_swap_6 : decode cX12_swap 6 = .ok (.iload_n 1, 1) := by decide +kernel
theorem dX12_swap_7 : decode cX12_swap 7 = .ok (.iload_n 2, 1) := by decide +kernel
theorem dX12_swap_8 : decode cX12_swap 8 = .ok (.invokevirtual 287, 3) := by decide +kernel
theorem dX12_swap_11 : decode cX12_swap 11 = .ok (.ifCond .ne 5, 3) := by decide +kernel
theorem dX12_swap_14 : decode cX12_swap 14 = .ok (.iconst (-1), 1) := by decide +kernel
theorem dX12_swap_15 : decode cX12_swap 15 = .ok (.ireturn, 1) := by decide +kernel
theorem dX12_swaps_0 : decode cX12_swaps 0 = .ok (.aload_n 0, 1) := by decide +kernel
theorem dX12_swaps_1 : decode cX12_swaps 1 = .ok (.iconst 0, 1) := by decide +kernel
theorem dX12_swaps_2 : decode cX12_swaps 2 = .ok (.putfield 1, 3) := by decide +kernel
theorem dX12_swaps_5 : decode cX12_swaps 5 = .ok (.aload_n 0, 1) := by decide +kernel
theorem dX12_swaps_6 : decode cX12_swaps 6 = .ok (.invokevirtual 344, 3) := by decide +kernel
theorem dX12_swaps_9 : decode cX12_swaps 9 = .ok (.ifCond .ne 5, 3) := by decide +kernel
theorem dX12_swaps_14 : decode cX12_swaps 14 = .ok (.iconst 0, 1) := by decide +kernel
theorem dX12_swaps_15 : decode cX12_swaps 15 = .ok (.istore_n 1, 1) := by decide +kernel
theorem dX12_swaps_16 : decode cX12_swaps 16 = .ok (.iconst 0, 1) := by decide +kernel
theorem dX12_swaps_17 : decode cX12_swaps 17 = .ok (.istore_n 2, 1) := by decide +kernel
theorem dX12_swaps_18 : decode cX12_swaps 18 = .ok (.iconst 0, 1) := by decide +kernel
theorem dX12_swaps_19 : decode cX12_swaps 19 = .ok (.istore_n 3, 1) := by decide +kernel
theorem dX12_swaps_20 : decode cX12_swaps 20 = .ok (.iload_n 3, 1) := by decide +kernel
theorem dX12_swaps_21 : decode cX12_swaps 21 = .ok (.aload_n 0, 1) := by decide +kernel
theorem dX12_swaps_22 : decode cX12_swaps 22 = .ok (.getfield 33, 3) := by decide +kernel
theorem dX12_swaps_25 : decode cX12_swaps 25 = .ok (.iconst 1, 1) := by decide +kernel
theorem dX12_swaps_26 : decode cX12_swaps 26 = .ok (.iaload, 1) := by decide +kernel
theorem dX12_swaps_27 : decode cX12_swaps 27 = .ok (.if_icmp .ge 123, 3) := by decide +kernel
theorem dX12_swaps_150 : decode cX12_swaps 150 = .ok (.iload_n 1, 1) := by decide +kernel
theorem dX12_swaps_151 : decode cX12_swaps 151 = .ok (.ireturn, 1) := by decide +kernel
theorem dX12_take_0 : decode cX12_take 0 = .ok (.aload_n 0, 1) := by decide +kernel
theorem dX12_take_1 : decode cX12_take 1 = .ok (.iconst 0, 1) := by decide +kernel
theorem dX12_take_2 : decode cX12_take 2 = .ok (.putfield 1, 3) := by decide +kernel
theorem dX12_take_5 : decode cX12_take 5 = .ok (.aload_n 0, 1) := by decide +kernel
theorem dX12_take_6 : decode cX12_take 6 = .ok (.iload_n 1, 1) := by decide +kernel
theorem dX12_take_7 : decode cX12_take 7 = .ok (.invokevirtual 236, 3) := by decide +kernel
theorem dX12_take_10 : decode cX12_take 10 = .ok (.ifCond .eq 11, 3) := by decide +kernel
theorem dX12_take_21 : decode cX12_take 21 = .ok (.iconst (-1), 1) := by decide +kernel
theorem dX12_take_22 : decode cX12_take 22 = .ok (.ireturn, 1) := by decide +kernel
theorem dX12_taken_0 : decode cX12_taken 0 = .ok (.aload_n 0, 1) := by decide +kernel
theorem dX12_taken_1 : decode cX12_taken 1 = .ok (.aload_n 0, 1) := by decide +kernel
theorem dX12_taken_2 : decode cX12_taken 2 = .ok (.getfield 7, 3) := by decide +kernel
theorem dX12_taken_5 : decode cX12_taken 5 = .ok (.putfield 18, 3) := by decide +kernel
theorem dX12_taken_8 : decode cX12_taken 8 = .ok (.aload_n 0, 1) := by decide +kernel
theorem dX12_taken_9 : decode cX12_taken 9 = .ok (.iconst 0, 1) := by decide +kernel
theorem dX12_taken_10 : decode cX12_taken 10 = .ok (.putfield 7, 3) := by decide +kernel
theorem dX12_taken_13 : decode cX12_taken 13 = .ok (.aload_n 0, 1) := by decide +kernel
theorem dX12_taken_14 : decode cX12_taken 14 = .ok (.iconst 0, 1) := by decide +kernel
theorem dX12_taken_15 : decode cX12_taken 15 = .ok (.putfield 21, 3) := by decide +kernel
theorem dX12_taken_18 : decode cX12_taken 18 = .ok (.aload_n 0, 1) := by decide +kernel
theorem dX12_taken_19 : decode cX12_taken 19 = .ok (.iload_n 1, 1) := by decide +kernel
theorem dX12_taken_20 : decode cX12_taken 20 = .ok (.putfield 24, 3) := by decide +kernel
theorem dX12_taken_23 : decode cX12_taken 23 = .ok (.return_, 1) := by decide +kernel
theorem dX12_throwsIf_0 : decode cX12_throwsIf 0 = .ok (.aload_n 0, 1) := by decide +kernel
theorem dX12_throwsIf_1 : decode cX12_throwsIf 1 = .ok (.iload_n 1, 1) := by decide +kernel
theorem dX12_throwsIf_2 : decode cX12_throwsIf 2 = .ok (.ifCond .eq 7, 3) := by decide +kernel
theorem dX12_throwsIf_5 : decode cX12_throwsIf 5 = .ok (.iconst 1, 1) := by decide +kernel
theorem dX12_throwsIf_6 : decode cX12_throwsIf 6 = .ok (.goto 4, 3) := by decide +kernel
theorem dX12_throwsIf_10 : decode cX12_throwsIf 10 = .ok (.putfield 1, 3) := by decide +kernel
theorem dX12_throwsIf_13 : decode cX12_throwsIf 13 = .ok (.iload_n 1, 1) := by decide +kernel
theorem dX12_throwsIf_14 : decode cX12_throwsIf 14 = .ok (.ireturn, 1) := by decide +kernel
theorem dX12_town_0 : decode cX12_town 0 = .ok (.aload_n 0, 1) := by decide +kernel
theorem dX12_town_1 : decode cX12_town 1 = .ok (.iconst 0, 1) := by decide +kernel
theorem dX12_town_2 : decode cX12_town 2 = .ok (.putfield 1, 3) := by decide +kernel
theorem dX12_town_5 : decode cX12_town 5 = .ok (.aload_n 0, 1) := by decide +kernel
theorem dX12_town_6 : decode cX12_town 6 = .ok (.sipush 900, 3) := by decide +kernel
theorem dX12_town_9 : decode cX12_town 9 = .ok (.invokevirtual 218, 3) := by decide +kernel
theorem dX12_town_12 : decode cX12_town 12 = .ok (.aload_n 0, 1) := by decide +kernel
theorem dX12_town_13 : decode cX12_town 13 = .ok (.iconst 0, 1) := by decide +kernel
theorem dX12_town_14 : decode cX12_town 14 = .ok (.putfield 162, 3) := by decide +kernel
theorem dX12_town_17 : decode cX12_town 17 = .ok (.aload_n 0, 1) := by decide +kernel
theorem dX12_town_18 : decode cX12_town 18 = .ok (.iconst 0, 1) := by decide +kernel
theorem dX12_town_19 : decode cX12_town 19 = .ok (.putfield 221, 3) := by decide +kernel
theorem dX12_town_22 : decode cX12_town 22 = .ok (.aload_n 0, 1) := by decide +kernel
theorem dX12_town_23 : decode cX12_town 23 = .ok (.iconst 0, 1) := by decide +kernel
theorem dX12_town_24 : decode cX12_town 24 = .ok (.putfield 212, 3) := by decide +kernel
theorem dX12_town_27 : decode cX12_town 27 = .ok (.iconst 0, 1) := by decide +kernel
theorem dX12_town_28 : decode cX12_town 28 = .ok (.istore_n 1, 1) := by decide +kernel
theorem dX12_town_29 : decode cX12_town 29 = .ok (.iload_n 1, 1) := by decide +kernel
theorem dX12_town_30 : decode cX12_town 30 = .ok (.sipush 146, 3) := by decide +kernel
theorem dX12_town_33 : decode cX12_town 33 = .ok (.if_icmp .ge 16, 3) := by decide +kernel
theorem dX12_town_36 : decode cX12_town 36 = .ok (.aload_n 0, 1) := by decide +kernel
theorem dX12_town_37 : decode cX12_town 37 = .ok (.getfield 37, 3) := by decide +kernel
theorem dX12_town_40 : decode cX12_town 40 = .ok (.iload_n 1, 1) := by decide +kernel
theorem dX12_town_41 : decode cX12_town 41 = .ok (.iconst 0, 1) := by decide +kernel
theorem dX12_town_42 : decode cX12_town 42 = .ok (.iastore, 1) := by decide +kernel
theorem dX12_town_43 : decode cX12_town 43 = .ok (.iinc 1 1, 3) := by decide +kernel
theorem dX12_town_46 : decode cX12_town 46 = .ok (.goto (-17), 3) := by decide +kernel
theorem dX12_town_49 : decode cX12_town 49 = .ok (.aload_n 0, 1) := by decide +kernel
theorem dX12_town_50 : decode cX12_town 50 = .ok (.invokevirtual 174, 3) := by decide +kernel
theorem dX12_town_53 : decode cX12_town 53 = .ok (.aload_n 0, 1) := by decide +kernel
theorem dX12_town_54 : decode cX12_town 54 = .ok (.getfield 145, 3) := by decide +kernel
theorem dX12_town_57 : decode cX12_town 57 = .ok (.ifCond .eq 39, 3) := by decide +kernel
theorem dX12_town_96 : decode cX12_town 96 = .ok (.iconst 0, 1) := by decide +kernel
theorem dX12_town_97 : decode cX12_town 97 = .ok (.istore_n 1, 1) := by decide +kernel
theorem dX12_town_98 : decode cX12_town 98 = .ok (.iload_n 1, 1) := by decide +kernel
theorem dX12_town_99 : decode cX12_town 99 = .ok (.sipush 2187, 3) := by decide +kernel
theorem dX12_town_102 : decode cX12_town 102 = .ok (.if_icmp .ge 32, 3) := by decide +kernel
theorem dX12_town_105 : decode cX12_town 105 = .ok (.aload_n 0, 1) := by decide +kernel
theorem dX12_town_106 : decode cX12_town 106 = .ok (.getfield 33, 3) := by decide +kernel
theorem dX12_town_109 : decode cX12_town 109 = .ok (.iload_n 1, 1) := by decide +kernel
theorem dX12_town_110 : decode cX12_town 110 = .ok (.iload_n 1, 1) := by decide +kernel
theorem dX12_town_111 : decode cX12_town 111 = .ok (.sipush 146, 3) := by decide +kernel
theorem dX12_town_114 : decode cX12_town 114 = .ok (.if_icmp .ge 12, 3) := by decide +kernel
theorem dX12_town_117 : decode cX12_town 117 = .ok (.aload_n 0, 1) := by decide +kernel
theorem dX12_town_118 : decode cX12_town 118 = .ok (.getfield 37, 3) := by decide +kernel
theorem dX12_town_121 : decode cX12_town 121 = .ok (.iload_n 1, 1) := by decide +kernel
theorem dX12_town_122 : decode cX12_town 122 = .ok (.iaload, 1) := by decide +kernel
theorem dX12_town_123 : decode cX12_town 123 = .ok (.goto 4, 3) := by decide +kernel
theorem dX12_town_126 : decode cX12_town 126 = .ok (.iconst 0, 1) := by decide +kernel
theorem dX12_town_127 : decode cX12_town 127 = .ok (.iastore, 1) := by decide +kernel
theorem dX12_town_128 : decode cX12_town 128 = .ok (.iinc 1 1, 3) := by decide +kernel
theorem dX12_town_131 : decode cX12_town 131 = .ok (.goto (-33), 3) := by decide +kernel
theorem dX12_town_134 : decode cX12_town 134 = .ok (.iconst 0, 1) := by decide +kernel
theorem dX12_town_135 : decode cX12_town 135 = .ok (.istore_n 1, 1) := by decide +kernel
theorem dX12_town_136 : decode cX12_town 136 = .ok (.iload_n 1, 1) := by decide +kernel
theorem dX12_town_137 : decode cX12_town 137 = .ok (.bipush 18, 2) := by decide +kernel
theorem dX12_town_139 : decode cX12_town 139 = .ok (.if_icmp .ge 24, 3) := by decide +kernel
theorem dX12_town_142 : decode cX12_town 142 = .ok (.aload_n 0, 1) := by decide +kernel
theorem dX12_town_143 : decode cX12_town 143 = .ok (.getfield 43, 3) := by decide +kernel
theorem dX12_town_146 : decode cX12_town 146 = .ok (.iload_n 1, 1) := by decide +kernel
theorem dX12_town_147 : decode cX12_town 147 = .ok (.aload_n 0, 1) := by decide +kernel
theorem dX12_town_148 : decode cX12_town 148 = .ok (.getfield 43, 3) := by decide +kernel
theorem dX12_town_151 : decode cX12_town 151 = .ok (.bipush 18, 2) := by decide +kernel
theorem dX12_town_153 : decode cX12_town 153 = .ok (.iload_n 1, 1) := by decide +kernel
theorem dX12_town_154 : decode cX12_town 154 = .ok (.iadd, 1) := by decide +kernel
theorem dX12_town_155 : decode cX12_town 155 = .ok (.laload, 1) := by decide +kernel
theorem dX12_town_156 : decode cX12_town 156 = .ok (.lastore, 1) := by decide +kernel
theorem dX12_town_157 : decode cX12_town 157 = .ok (.iinc 1 1, 3) := by decide +kernel
theorem dX12_town_160 : decode cX12_town 160 = .ok (.goto (-24), 3) := by decide +kernel
theorem dX12_town_163 : decode cX12_town 163 = .ok (.iconst 0, 1) := by decide +kernel
theorem dX12_town_164 : decode cX12_town 164 = .ok (.istore_n 1, 1) := by decide +kernel
theorem dX12_town_165 : decode cX12_town 165 = .ok (.iload_n 1, 1) := by decide +kernel
theorem dX12_town_166 : decode cX12_town 166 = .ok (.bipush 9, 2) := by decide +kernel
theorem dX12_town_168 : decode cX12_town 168 = .ok (.if_icmp .ge 66, 3) := by decide +kernel
theorem dX12_town_171 : decode cX12_town 171 = .ok (.aload_n 0, 1) := by decide +kernel
theorem dX12_town_172 : decode cX12_town 172 = .ok (.getfield 33, 3) := by decide +kernel
theorem dX12_town_175 : decode cX12_town 175 = .ok (.sipush 161, 3) := by decide +kernel
theorem dX12_town_178 : decode cX12_town 178 = .ok (.iload_n 1, 1) := by decide +kernel
theorem dX12_town_179 : decode cX12_town 179 = .ok (.iadd, 1) := by decide +kernel
theorem dX12_town_180 : decode cX12_town 180 = .ok (.aload_n 0, 1) := by decide +kernel
theorem dX12_town_181 : decode cX12_town 181 = .ok (.getfield 33, 3) := by decide +kernel
theorem dX12_town_184 : decode cX12_town 184 = .ok (.bipush 38, 2) := by decide +kernel
theorem dX12_town_186 : decode cX12_town 186 = .ok (.iload_n 1, 1) := by decide +kernel
theorem dX12_town_187 : decode cX12_town 187 = .ok (.iadd, 1) := by decide +kernel
theorem dX12_town_188 : decode cX12_town 188 = .ok (.iaload, 1) := by decide +kernel
theorem dX12_town_189 : decode cX12_town 189 = .ok (.iastore, 1) := by decide +kernel
theorem dX12_town_190 : decode cX12_town 190 = .ok (.aload_n 0, 1) := by decide +kernel
theorem dX12_town_191 : decode cX12_town 191 = .ok (.getfield 33, 3) := by decide +kernel
theorem dX12_town_194 : decode cX12_town 194 = .ok (.sipush 170, 3) := by decide +kernel
theorem dX12_town_197 : decode cX12_town 197 = .ok (.iload_n 1, 1) := by decide +kernel
theorem dX12_town_198 : decode cX12_town 198 = .ok (.iadd, 1) := by decide +kernel
theorem dX12_town_199 : decode cX12_town 199 = .ok (.aload_n 0, 1) := by decide +kernel
theorem dX12_town_200 : decode cX12_town 200 = .ok (.getfield 33, 3) := by decide +kernel
theorem dX12_town_203 : decode cX12_town 203 = .ok (.bipush 29, 2) := by decide +kernel
theorem dX12_town_205 : decode cX12_town 205 = .ok (.iload_n 1, 1) := by decide +kernel
theorem dX12_town_206 : decode cX12_town 206 = .ok (.iadd, 1) := by decide +kernel
theorem dX12_town_207 : decode cX12_town 207 = .ok (.iaload, 1) := by decide +kernel
theorem dX12_town_208 : decode cX12_town 208 = .ok (.iastore, 1) := by decide +kernel
theorem dX12_town_209 : decode cX12_town 209 = .ok (.aload_n 0, 1) := by decide +kernel
theorem dX12_town_210 : decode cX12_town 210 = .ok (.getfield 33, 3) := by decide +kernel
theorem dX12_town_213 : decode cX12_town 213 = .ok (.sipush 188, 3) := by decide +kernel
theorem dX12_town_216 : decode cX12_town 216 = .ok (.iload_n 1, 1) := by decide +kernel
theorem dX12_town_217 : decode cX12_town 217 = .ok (.iadd, 1) := by decide +kernel
theorem dX12_town_218 : decode cX12_town 218 = .ok (.aload_n 0, 1) := by decide +kernel
theorem dX12_town_219 : decode cX12_town 219 = .ok (.getfield 33, 3) := by decide +kernel
theorem dX12_town_222 : decode cX12_town 222 = .ok (.bipush 11, 2) := by decide +kernel
theorem dX12_town_224 : decode cX12_town 224 = .ok (.iload_n 1, 1) := by decide +kernel
theorem dX12_town_225 : decode cX12_town 225 = .ok (.iadd, 1) := by decide +kernel
theorem dX12_town_226 : decode cX12_town 226 = .ok (.iaload, 1) := by decide +kernel
theorem dX12_town_227 : decode cX12_town 227 = .ok (.iastore, 1) := by decide +kernel
theorem dX12_town_228 : decode cX12_town 228 = .ok (.iinc 1 1, 3) := by decide +kernel
theorem dX12_town_231 : decode cX12_town 231 = .ok (.goto (-66), 3) := by decide +kernel
theorem dX12_town_234 : decode cX12_town 234 = .ok (.iconst 0, 1) := by decide +kernel
theorem dX12_town_235 : decode cX12_town 235 = .ok (.istore_n 1, 1) := by decide +kernel
theorem dX12_town_236 : decode cX12_town 236 = .ok (.iload_n 1, 1) := by decide +kernel
theorem dX12_town_237 : decode cX12_town 237 = .ok (.aload_n 0, 1) := by decide +kernel
theorem dX12_town_238 : decode cX12_town 238 = .ok (.getfield 33, 3) := by decide +kernel
theorem dX12_town_241 : decode cX12_town 241 = .ok (.iconst 1, 1) := by decide +kernel
theorem dX12_town_242 : decode cX12_town 242 = .ok (.iaload, 1) := by decide +kernel
theorem dX12_town_243 : decode cX12_town 243 = .ok (.if_icmp .ge 27, 3) := by decide +kernel
theorem dX12_town_270 : decode cX12_town 270 = .ok (.aload_n 0, 1) := by decide +kernel
theorem dX12_town_271 : decode cX12_town 271 = .ok (.iconst 0, 1) := by decide +kernel
theorem dX12_town_272 : decode cX12_town 272 = .ok (.putfield 233, 3) := by decide +kernel
theorem dX12_town_275 : decode cX12_town 275 = .ok (.aload_n 0, 1) := by decide +kernel
theorem dX12_town_276 : decode cX12_town 276 = .ok (.getfield 221, 3) := by decide +kernel
theorem dX12_town_279 : decode cX12_town 279 = .ok (.ireturn, 1) := by decide +kernel
theorem dX12_tries_0 : decode cX12_tries 0 = .ok (.iconst 0, 1) := by decide +kernel
theorem dX12_tries_1 : decode cX12_tries 1 = .ok (.istore_n 1, 1) := by decide +kernel
theorem dX12_tries_2 : decode cX12_tries 2 = .ok (.iload_n 1, 1) := by decide +kernel
theorem dX12_tries_3 : decode cX12_tries 3 = .ok (.sipush 1860, 3) := by decide +kernel
theorem dX12_tries_6 : decode cX12_tries 6 = .ok (.if_icmp .ge 25, 3) := by decide +kernel
theorem dX12_tries_9 : decode cX12_tries 9 = .ok (.aload_n 0, 1) := by decide +kernel
theorem dX12_tries_10 : decode cX12_tries 10 = .ok (.getfield 53, 3) := by decide +kernel
theorem dX12_tries_13 : decode cX12_tries 13 = .ok (.iload_n 1, 1) := by decide +kernel
theorem dX12_tries_14 : decode cX12_tries 14 = .ok (.aload_n 0, 1) := by decide +kernel
theorem dX12_tries_15 : decode cX12_tries 15 = .ok (.getfield 33, 3) := by decide +kernel
theorem dX12_tries_18 : decode cX12_tries 18 = .ok (.sipush 146, 3) := by decide +kernel
theorem dX12_tries_21 : decode cX12_tries 21 = .ok (.iload_n 1, 1) := by decide +kernel
theorem dX12_tries_22 : decode cX12_tries 22 = .ok (.iadd, 1) := by decide +kernel
theorem dX12_tries_23 : decode cX12_tries 23 = .ok (.iaload, 1) := by decide +kernel
theorem dX12_tries_24 : decode cX12_tries 24 = .ok (.iastore, 1) := by decide +kernel
theorem dX12_tries_25 : decode cX12_tries 25 = .ok (.iinc 1 1, 3) := by decide +kernel
theorem dX12_tries_28 : decode cX12_tries 28 = .ok (.goto (-26), 3) := by decide +kernel
theorem dX12_tries_31 : decode cX12_tries 31 = .ok (.return_, 1) := by decide +kernel
theorem dX12_undo_0 : decode cX12_undo 0 = .ok (.aload_n 0, 1) := by decide +kernel
theorem dX12_undo_1 : decode cX12_undo 1 = .ok (.iconst 0, 1) := by decide +kernel
theorem dX12_undo_2 : decode cX12_undo 2 = .ok (.putfield 1, 3) := by decide +kernel
theorem dX12_undo_5 : decode cX12_undo 5 = .ok (.aload_n 0, 1) := by decide +kernel
theorem dX12_undo_6 : decode cX12_undo 6 = .ok (.getfield 233, 3) := by decide +kernel
theorem dX12_undo_9 : decode cX12_undo 9 = .ok (.ifCond .ne 5, 3) := by decide +kernel
theorem dX12_undo_12 : decode cX12_undo 12 = .ok (.iconst (-1), 1) := by decide +kernel
theorem dX12_undo_13 : decode cX12_undo 13 = .ok (.ireturn, 1) := by decide +kernel
theorem dX12_votes_0 : decode cX12_votes 0 = .ok (.aload_n 0, 1) := by decide +kernel
theorem dX12_votes_1 : decode cX12_votes 1 = .ok (.iconst 0, 1) := by decide +kernel
theorem dX12_votes_2 : decode cX12_votes 2 = .ok (.putfield 1, 3) := by decide +kernel
theorem dX12_votes_5 : decode cX12_votes 5 = .ok (.iload_n 1, 1) := by decide +kernel
theorem dX12_votes_6 : decode cX12_votes 6 = .ok (.ifCond .lt 15, 3) := by decide +kernel
theorem dX12_votes_9 : decode cX12_votes 9 = .ok (.iload_n 1, 1) := by decide +kernel
theorem dX12_votes_10 : decode cX12_votes 10 = .ok (.iconst 1, 1) := by decide +kernel
theorem dX12_votes_11 : decode cX12_votes 11 = .ok (.aload_n 0, 1) := by decide +kernel
theorem dX12_votes_12 : decode cX12_votes 12 = .ok (.getfield 33, 3) := by decide +kernel
theorem dX12_votes_15 : decode cX12_votes 15 = .ok (.iconst 1, 1) := by decide +kernel
theorem dX12_votes_16 : decode cX12_votes 16 = .ok (.iaload, 1) := by decide +kernel
theorem dX12_votes_17 : decode cX12_votes 17 = .ok (.ishl, 1) := by decide +kernel
theorem dX12_votes_18 : decode cX12_votes 18 = .ok (.if_icmp .lt 5, 3) := by decide +kernel
theorem dX12_votes_21 : decode cX12_votes 21 = .ok (.iconst (-1), 1) := by decide +kernel
theorem dX12_votes_22 : decode cX12_votes 22 = .ok (.ireturn, 1) := by decide +kernel
theorem dX12_votes_23 : decode cX12_votes 23 = .ok (.aload_n 0, 1) := by decide +kernel
theorem dX12_votes_24 : decode cX12_votes 24 = .ok (.iload_n 1, 1) := by decide +kernel
theorem dX12_votes_25 : decode cX12_votes 25 = .ok (.invokevirtual 374, 3) := by decide +kernel
theorem dX12_votes_28 : decode cX12_votes 28 = .ok (.ifCond .eq 7, 3) := by decide +kernel
theorem dX12_votes_35 : decode cX12_votes 35 = .ok (.iconst 0, 1) := by decide +kernel
theorem dX12_votes_36 : decode cX12_votes 36 = .ok (.ireturn, 1) := by decide +kernel
theorem dX12_waitSet_0 : decode cX12_waitSet 0 = .ok (.iconst 0, 1) := by decide +kernel
theorem dX12_waitSet_1 : decode cX12_waitSet 1 = .ok (.istore_n 1, 1) := by decide +kernel
theorem dX12_waitSet_2 : decode cX12_waitSet 2 = .ok (.iconst 0, 1) := by decide +kernel
theorem dX12_waitSet_3 : decode cX12_waitSet 3 = .ok (.istore_n 2, 1) := by decide +kernel
theorem dX12_waitSet_4 : decode cX12_waitSet 4 = .ok (.iload_n 2, 1) := by decide +kernel
theorem dX12_waitSet_5 : decode cX12_waitSet 5 = .ok (.aload_n 0, 1) := by decide +kernel
theorem dX12_waitSet_6 : decode cX12_waitSet 6 = .ok (.getfield 33, 3) := by decide +kernel
theorem dX12_waitSet_9 : decode cX12_waitSet 9 = .ok (.sipush 151, 3) := by decide +kernel
theorem dX12_waitSet_12 : decode cX12_waitSet 12 = .ok (.iaload, 1) := by decide +kernel
theorem dX12_waitSet_13 : decode cX12_waitSet 13 = .ok (.if_icmp .ge 24, 3) := by decide +kernel
theorem dX12_waitSet_37 : decode cX12_waitSet 37 = .ok (.iload_n 1, 1) := by decide +kernel
theorem dX12_waitSet_38 : decode cX12_waitSet 38 = .ok (.ireturn, 1) := by decide +kernel
theorem dX12_wishes_0 : decode cX12_wishes 0 = .ok (.aload_n 0, 1) := by decide +kernel
theorem dX12_wishes_1 : decode cX12_wishes 1 = .ok (.iconst 0, 1) := by decide +kernel
theorem dX12_wishes_2 : decode cX12_wishes 2 = .ok (.putfield 1, 3) := by decide +kernel
theorem dX12_wishes_5 : decode cX12_wishes 5 = .ok (.aload_n 0, 1) := by decide +kernel
theorem dX12_wishes_6 : decode cX12_wishes 6 = .ok (.iconst (-1), 1) := by decide +kernel
theorem dX12_wishes_7 : decode cX12_wishes 7 = .ok (.putfield 59, 3) := by decide +kernel
theorem dX12_wishes_10 : decode cX12_wishes 10 = .ok (.aload_n 0, 1) := by decide +kernel
theorem dX12_wishes_11 : decode cX12_wishes 11 = .ok (.invokevirtual 344, 3) := by decide +kernel
theorem dX12_wishes_14 : decode cX12_wishes 14 = .ok (.ifCond .ne 5, 3) := by decide +kernel
theorem dX12_wishes_19 : decode cX12_wishes 19 = .ok (.iconst 0, 1) := by decide +kernel
theorem dX12_wishes_20 : decode cX12_wishes 20 = .ok (.istore_n 1, 1) := by decide +kernel
theorem dX12_wishes_21 : decode cX12_wishes 21 = .ok (.iconst 0, 1) := by decide +kernel
theorem dX12_wishes_22 : decode cX12_wishes 22 = .ok (.istore_n 2, 1) := by decide +kernel
theorem dX12_wishes_23 : decode cX12_wishes 23 = .ok (.iload_n 2, 1) := by decide +kernel
theorem dX12_wishes_24 : decode cX12_wishes 24 = .ok (.bipush 9, 2) := by decide +kernel
theorem dX12_wishes_26 : decode cX12_wishes 26 = .ok (.if_icmp .ge 16, 3) := by decide +kernel
theorem dX12_wishes_29 : decode cX12_wishes 29 = .ok (.aload_n 0, 1) := by decide +kernel
theorem dX12_wishes_30 : decode cX12_wishes 30 = .ok (.getfield 56, 3) := by decide +kernel
theorem dX12_wishes_33 : decode cX12_wishes 33 = .ok (.iload_n 2, 1) := by decide +kernel
theorem dX12_wishes_34 : decode cX12_wishes 34 = .ok (.iconst (-1), 1) := by decide +kernel
theorem dX12_wishes_35 : decode cX12_wishes 35 = .ok (.iastore, 1) := by decide +kernel
theorem dX12_wishes_36 : decode cX12_wishes 36 = .ok (.iinc 2 1, 3) := by decide +kernel
theorem dX12_wishes_39 : decode cX12_wishes 39 = .ok (.goto (-16), 3) := by decide +kernel
theorem dX12_wishes_42 : decode cX12_wishes 42 = .ok (.iconst 0, 1) := by decide +kernel
theorem dX12_wishes_43 : decode cX12_wishes 43 = .ok (.istore_n 2, 1) := by decide +kernel
theorem dX12_wishes_44 : decode cX12_wishes 44 = .ok (.iload_n 2, 1) := by decide +kernel
theorem dX12_wishes_45 : decode cX12_wishes 45 = .ok (.aload_n 0, 1) := by decide +kernel
theorem dX12_wishes_46 : decode cX12_wishes 46 = .ok (.getfield 33, 3) := by decide +kernel
theorem dX12_wishes_49 : decode cX12_wishes 49 = .ok (.iconst 1, 1) := by decide +kernel
theorem dX12_wishes_50 : decode cX12_wishes 50 = .ok (.iaload, 1) := by decide +kernel
theorem dX12_wishes_51 : decode cX12_wishes 51 = .ok (.if_icmp .ge 105, 3) := by decide +kernel
theorem dX12_wishes_156 : decode cX12_wishes 156 = .ok (.iload_n 1, 1) := by decide +kernel
theorem dX12_wishes_157 : decode cX12_wishes 157 = .ok (.iconst 1, 1) := by decide +kernel
theorem dX12_wishes_158 : decode cX12_wishes 158 = .ok (.if_icmp .ne 13, 3) := by decide +kernel
theorem dX12_wishes_171 : decode cX12_wishes 171 = .ok (.iload_n 1, 1) := by decide +kernel
theorem dX12_wishes_172 : decode cX12_wishes 172 = .ok (.ireturn, 1) := by decide +kernel
theorem dX12_worth_0 : decode cX12_worth 0 = .ok (.aload_n 0, 1) := by decide +kernel
theorem dX12_worth_1 : decode cX12_worth 1 = .ok (.iconst 0, 1) := by decide +kernel
theorem dX12_worth_2 : decode cX12_worth 2 = .ok (.putfield 1, 3) := by decide +kernel
theorem dX12_worth_5 : decode cX12_worth 5 = .ok (.aload_n 0, 1) := by decide +kernel
theorem dX12_worth_6 : decode cX12_worth 6 = .ok (.iload_n 1, 1) := by decide +kernel
theorem dX12_worth_7 : decode cX12_worth 7 = .ok (.invokevirtual 236, 3) := by decide +kernel
theorem dX12_worth_10 : decode cX12_worth 10 = .ok (.ifCond .eq 28, 3) := by decide +kernel
theorem dX12_worth_38 : decode cX12_worth 38 = .ok (.iconst (-1), 1) := by decide +kernel
theorem dX12_worth_39 : decode cX12_worth 39 = .ok (.ireturn, 1) := by decide +kernel
theorem dX1_init_0 : decode cX1_init 0 = .ok (.aload_n 0, 1) := by decide +kernel
theorem dX1_init_1 : decode cX1_init 1 = .ok (.invokespecial 1, 3) := by decide +kernel
theorem dX1_init_4 : decode cX1_init 4 = .ok (.aload_n 0, 1) := by decide +kernel
theorem dX1_init_5 : decode cX1_init 5 = .ok (.new 7, 3) := by decide +kernel
theorem dX1_init_8 : decode cX1_init 8 = .ok (.dup, 1) := by decide +kernel
theorem dX1_init_9 : decode cX1_init 9 = .ok (.invokespecial 9, 3) := by decide +kernel
theorem dX1_init_12 : decode cX1_init 12 = .ok (.putfield 10, 3) := by decide +kernel
theorem dX1_init_15 : decode cX1_init 15 = .ok (.aload_n 0, 1) := by decide +kernel
theorem dX1_init_16 : decode cX1_init 16 = .ok (.new 16, 3) := by decide +kernel
theorem dX1_init_19 : decode cX1_init 19 = .ok (.dup, 1) := by decide +kernel
theorem dX1_init_20 : decode cX1_init 20 = .ok (.aload_n 0, 1) := by decide +kernel
theorem dX1_init_21 : decode cX1_init 21 = .ok (.getfield 10, 3) := by decide +kernel
theorem dX1_init_24 : decode cX1_init 24 = .ok (.invokespecial 18, 3) := by decide +kernel
theorem dX1_init_27 : decode cX1_init 27 = .ok (.putfield 21, 3) := by decide +kernel
theorem dX1_init_30 : decode cX1_init 30 = .ok (.aload_n 0, 1) := by decide +kernel
theorem dX1_init_31 : decode cX1_init 31 = .ok (.new 25, 3) := by decide +kernel
theorem dX1_init_34 : decode cX1_init 34 = .ok (.dup, 1) := by decide +kernel
theorem dX1_init_35 : decode cX1_init 35 = .ok (.aload_n 1, 1) := by decide +kernel
theorem dX1_init_36 : decode cX1_init 36 = .ok (.aload_n 0, 1) := by decide +kernel
theorem dX1_init_37 : decode cX1_init 37 = .ok (.getfield 10, 3) := by decide +kernel
theorem dX1_init_40 : decode cX1_init 40 = .ok (.invokespecial 27, 3) := by decide +kernel
theorem dX1_init_43 : decode cX1_init 43 = .ok (.putfield 30, 3) := by decide +kernel
theorem dX1_init_46 : decode cX1_init 46 = .ok (.return_, 1) := by decide +kernel
theorem dX2_begin_0 : decode cX2_begin 0 = .ok (.aload_n 0, 1) := by decide +kernel
theorem dX2_begin_1 : decode cX2_begin 1 = .ok (.iconst 0, 1) := by decide +kernel
theorem dX2_begin_2 : decode cX2_begin 2 = .ok (.putfield 41, 3) := by decide +kernel
theorem dX2_begin_5 : decode cX2_begin 5 = .ok (.aload_n 0, 1) := by decide +kernel
theorem dX2_begin_6 : decode cX2_begin 6 = .ok (.iconst 1, 1) := by decide +kernel
theorem dX2_begin_7 : decode cX2_begin 7 = .ok (.aload_n 0, 1) := by decide +kernel
theorem dX2_begin_8 : decode cX2_begin 8 = .ok (.getfield 37, 3) := by decide +kernel
theorem dX2_begin_11 : decode cX2_begin 11 = .ok (.getfield 45, 3) := by decide +kernel
theorem dX2_begin_14 : decode cX2_begin 14 = .ok (.ishl, 1) := by decide +kernel
theorem dX2_begin_15 : decode cX2_begin 15 = .ok (.iconst 1, 1) := by decide +kernel
theorem dX2_begin_16 : decode cX2_begin 16 = .ok (.isub, 1) := by decide +kernel
theorem dX2_begin_17 : decode cX2_begin 17 = .ok (.putfield 50, 3) := by decide +kernel
theorem dX2_begin_20 : decode cX2_begin 20 = .ok (.aload_n 0, 1) := by decide +kernel
theorem dX2_begin_21 : decode cX2_begin 21 = .ok (.iconst 0, 1) := by decide +kernel
theorem dX2_begin_22 : decode cX2_begin 22 = .ok (.putfield 53, 3) := by decide +kernel
theorem dX2_begin_25 : decode cX2_begin 25 = .ok (.aload_n 0, 1) := by decide +kernel
theorem dX2_begin_26 : decode cX2_begin 26 = .ok (.iconst 0, 1) := by decide +kernel
theorem dX2_begin_27 : decode cX2_begin 27 = .ok (.putfield 56, 3) := by decide +kernel
theorem dX2_begin_30 : decode cX2_begin 30 = .ok (.aload_n 0, 1) := by decide +kernel
theorem dX2_begin_31 : decode cX2_begin 31 = .ok (.iconst 0, 1) := by decide +kernel
theorem dX2_begin_32 : decode cX2_begin 32 = .ok (.putfield 59, 3) := by decide +kernel
theorem dX2_begin_35 : decode cX2_begin 35 = .ok (.aload_n 0, 1) := by decide +kernel
theorem dX2_begin_36 : decode cX2_begin 36 = .ok (.iconst 0, 1) := by decide +kernel
theorem dX2_begin_37 : decode cX2_begin 37 = .ok (.putfield 62, 3) := by decide +kernel
theorem dX2_begin_40 : decode cX2_begin 40 = .ok (.iconst 0, 1) := by decide +kernel
theorem dX2_begin_41 : decode cX2_begin 41 = .ok (.istore_n 1, 1) := by decide +kernel
theorem dX2_begin_42 : decode cX2_begin 42 = .ok (.iload_n 1, 1) := by decide +kernel
theorem dX2_begin_43 : decode cX2_begin 43 = .ok (.aload_n 0, 1) := by decide +kernel
theorem dX2_begin_44 : decode cX2_begin 44 = .ok (.getfield 37, 3) := by decide +kernel
theorem dX2_begin_47 : decode cX2_begin 47 = .ok (.getfield 65, 3) := by decide +kernel
theorem dX2_begin_50 : decode cX2_begin 50 = .ok (.if_icmp .ge 42, 3) := by decide +kernel
theorem dX2_begin_92 : decode cX2_begin 92 = .ok (.iconst 0, 1) := by decide +kernel
theorem dX2_begin_93 : decode cX2_begin 93 = .ok (.istore_n 1, 1) := by decide +kernel
theorem dX2_begin_94 : decode cX2_begin 94 = .ok (.iload_n 1, 1) := by decide +kernel
theorem dX2_begin_95 : decode cX2_begin 95 = .ok (.aload_n 0, 1) := by decide +kernel
theorem dX2_begin_96 : decode cX2_begin 96 = .ok (.getfield 37, 3) := by decide +kernel
theorem dX2_begin_99 : decode cX2_begin 99 = .ok (.getfield 45, 3) := by decide +kernel
theorem dX2_begin_102 : decode cX2_begin 102 = .ok (.if_icmp .ge 79, 3) := by decide +kernel
theorem dX2_begin_181 : decode cX2_begin 181 = .ok (.return_, 1) := by decide +kernel
theorem dX2_copyFrom_0 : decode cX2_copyFrom 0 = .ok (.aload_n 0, 1) := by decide +kernel
