theorem dX12_sentence_39 : decode cX12_sentence 39 = .ok (.putfield 436, 3) := by decide +kernel
theorem dX12_sentence_42 : decode cX12_sentence 42 = .ok (.aload_n 0, 1) := by decide +kernel
theorem dX12_sentence_43 : decode cX12_sentence 43 = .ok (.invokevirtual 174, 3) := by decide +kernel
theorem dX12_sentence_46 : decode cX12_sentence 46 = .ok (.iconst 1, 1) := by decide +kernel
theorem dX12_sentence_47 : decode cX12_sentence 47 = .ok (.istore_n 1, 1) := by decide +kernel
theorem dX12_sentence_48 : decode cX12_sentence 48 = .ok (.iload_n 1, 1) := by decide +kernel
theorem dX12_sentence_49 : decode cX12_sentence 49 = .ok (.ifCond .eq 83, 3) := by decide +kernel
theorem dX12_sentence_52 : decode cX12_sentence 52 = .ok (.aload_n 0, 1) := by decide +kernel
theorem dX12_sentence_53 : decode cX12_sentence 53 = .ok (.getfield 436, 3) := by decide +kernel
theorem dX12_sentence_56 : decode cX12_sentence 56 = .ok (.ifCond .eq 45, 3) := by decide +kernel
theorem dX12_sentence_59 : decode cX12_sentence 59 = .ok (.aload_n 0, 1) := by decide +kernel
theorem dX12_sentence_60 : decode cX12_sentence 60 = .ok (.getfield 145, 3) := by decide +kernel
theorem dX12_sentence_63 : decode cX12_sentence 63 = .ok (.ifCond .ne 38, 3) := by decide +kernel
theorem dX12_sentence_66 : decode cX12_sentence 66 = .ok (.aload_n 0, 1) := by decide +kernel
theorem dX12_sentence_67 : decode cX12_sentence 67 = .ok (.invokevirtual 439, 3) := by decide +kernel
theorem dX12_sentence_70 : decode cX12_sentence 70 = .ok (.aload_n 0, 1) := by decide +kernel
theorem dX12_sentence_71 : decode cX12_sentence 71 = .ok (.bipush 22, 2) := by decide +kernel
theorem dX12_sentence_73 : decode cX12_sentence 73 = .ok (.invokevirtual 442, 3) := by decide +kernel
theorem dX12_sentence_76 : decode cX12_sentence 76 = .ok (.aload_n 0, 1) := by decide +kernel
theorem dX12_sentence_77 : decode cX12_sentence 77 = .ok (.getfield 421, 3) := by decide +kernel
theorem dX12_sentence_80 : decode cX12_sentence 80 = .ok (.ifCond .le 16, 3) := by decide +kernel
theorem dX12_sentence_83 : decode cX12_sentence 83 = .ok (.aload_n 0, 1) := by decide +kernel
theorem dX12_sentence_84 : decode cX12_sentence 84 = .ok (.iconst 1, 1) := by decide +kernel
theorem dX12_sentence_85 : decode cX12_sentence 85 = .ok (.invokevirtual 171, 3) := by decide +kernel
theorem dX12_sentence_88 : decode cX12_sentence 88 = .ok (.pop, 1) := by decide +kernel
theorem dX12_sentence_89 : decode cX12_sentence 89 = .ok (.iconst (-1), 1) := by decide +kernel
theorem dX12_sentence_90 : decode cX12_sentence 90 = .ok (.aload_n 0, 1) := by decide +kernel
theorem dX12_sentence_91 : decode cX12_sentence 91 = .ok (.getfield 165, 3) := by decide +kernel
theorem dX12_sentence_94 : decode cX12_sentence 94 = .ok (.isub, 1) := by decide +kernel
theorem dX12_sentence_95 : decode cX12_sentence 95 = .ok (.ireturn, 1) := by decide +kernel
theorem dX12_sentence_96 : decode cX12_sentence 96 = .ok (.iconst 0, 1) := by decide +kernel
theorem dX12_sentence_97 : decode cX12_sentence 97 = .ok (.istore_n 1, 1) := by decide +kernel
theorem dX12_sentence_98 : decode cX12_sentence 98 = .ok (.goto (-50), 3) := by decide +kernel
theorem dX12_sentence_101 : decode cX12_sentence 101 = .ok (.aload_n 0, 1) := by decide +kernel
theorem dX12_sentence_102 : decode cX12_sentence 102 = .ok (.getfield 436, 3) := by decide +kernel
theorem dX12_sentence_105 : decode cX12_sentence 105 = .ok (.ifCond .eq 13, 3) := by decide +kernel
theorem dX12_sentence_108 : decode cX12_sentence 108 = .ok (.aload_n 0, 1) := by decide +kernel
theorem dX12_sentence_109 : decode cX12_sentence 109 = .ok (.invokevirtual 445, 3) := by decide +kernel
theorem dX12_sentence_112 : decode cX12_sentence 112 = .ok (.ifCond .ne (-64), 3) := by decide +kernel
theorem dX12_sentence_115 : decode cX12_sentence 115 = .ok (.goto 10, 3) := by decide +kernel
theorem dX12_sentence_118 : decode cX12_sentence 118 = .ok (.aload_n 0, 1) := by decide +kernel
theorem dX12_sentence_119 : decode cX12_sentence 119 = .ok (.invokevirtual 448, 3) := by decide +kernel
theorem dX12_sentence_122 : decode cX12_sentence 122 = .ok (.ifCond .ne (-74), 3) := by decide +kernel
theorem dX12_sentence_125 : decode cX12_sentence 125 = .ok (.iconst (-1), 1) := by decide +kernel
theorem dX12_sentence_126 : decode cX12_sentence 126 = .ok (.aload_n 0, 1) := by decide +kernel
theorem dX12_sentence_127 : decode cX12_sentence 127 = .ok (.getfield 165, 3) := by decide +kernel
theorem dX12_sentence_130 : decode cX12_sentence 130 = .ok (.isub, 1) := by decide +kernel
theorem dX12_sentence_131 : decode cX12_sentence 131 = .ok (.ireturn, 1) := by decide +kernel
theorem dX12_sentence_132 : decode cX12_sentence 132 = .ok (.aload_n 0, 1) := by decide +kernel
theorem dX12_sentence_133 : decode cX12_sentence 133 = .ok (.getfield 33, 3) := by decide +kernel
theorem dX12_sentence_136 : decode cX12_sentence 136 = .ok (.sipush 2006, 3) := by decide +kernel
theorem dX12_sentence_139 : decode cX12_sentence 139 = .ok (.aload_n 0, 1) := by decide +kernel
theorem dX12_sentence_140 : decode cX12_sentence 140 = .ok (.getfield 418, 3) := by decide +kernel
theorem dX12_sentence_143 : decode cX12_sentence 143 = .ok (.iastore, 1) := by decide +kernel
theorem dX12_sentence_144 : decode cX12_sentence 144 = .ok (.iconst 0, 1) := by decide +kernel
theorem dX12_sentence_145 : decode cX12_sentence 145 = .ok (.istore_n 2, 1) := by decide +kernel
theorem dX12_sentence_146 : decode cX12_sentence 146 = .ok (.iload_n 2, 1) := by decide +kernel
theorem dX12_sentence_147 : decode cX12_sentence 147 = .ok (.iconst 3, 1) := by decide +kernel
theorem dX12_sentence_148 : decode cX12_sentence 148 = .ok (.aload_n 0, 1) := by decide +kernel
theorem dX12_sentence_149 : decode cX12_sentence 149 = .ok (.getfield 418, 3) := by decide +kernel
theorem dX12_sentence_152 : decode cX12_sentence 152 = .ok (.imul, 1) := by decide +kernel
theorem dX12_sentence_153 : decode cX12_sentence 153 = .ok (.if_icmp .ge 25, 3) := by decide +kernel
theorem dX12_sentence_156 : decode cX12_sentence 156 = .ok (.aload_n 0, 1) := by decide +kernel
theorem dX12_sentence_157 : decode cX12_sentence 157 = .ok (.getfield 33, 3) := by decide +kernel
theorem dX12_sentence_160 : decode cX12_sentence 160 = .ok (.sipush 2007, 3) := by decide +kernel
theorem dX12_sentence_163 : decode cX12_sentence 163 = .ok (.iload_n 2, 1) := by decide +kernel
theorem dX12_sentence_164 : decode cX12_sentence 164 = .ok (.iadd, 1) := by decide +kernel
theorem dX12_sentence_165 : decode cX12_sentence 165 = .ok (.aload_n 0, 1) := by decide +kernel
theorem dX12_sentence_166 : decode cX12_sentence 166 = .ok (.getfield 40, 3) := by decide +kernel
theorem dX12_sentence_169 : decode cX12_sentence 169 = .ok (.iload_n 2, 1) := by decide +kernel
theorem dX12_sentence_170 : decode cX12_sentence 170 = .ok (.iaload, 1) := by decide +kernel
theorem dX12_sentence_171 : decode cX12_sentence 171 = .ok (.iastore, 1) := by decide +kernel
theorem dX12_sentence_172 : decode cX12_sentence 172 = .ok (.iinc 2 1, 3) := by decide +kernel
theorem dX12_sentence_175 : decode cX12_sentence 175 = .ok (.goto (-29), 3) := by decide +kernel
theorem dX12_sentence_178 : decode cX12_sentence 178 = .ok (.aload_n 0, 1) := by decide +kernel
theorem dX12_sentence_179 : decode cX12_sentence 179 = .ok (.getfield 433, 3) := by decide +kernel
theorem dX12_sentence_182 : decode cX12_sentence 182 = .ok (.ireturn, 1) := by decide +kernel
theorem dX12_sign_0 : decode cX12_sign 0 = .ok (.aload_n 0, 1) := by decide +kernel
theorem dX12_sign_1 : decode cX12_sign 1 = .ok (.iload_n 1, 1) := by decide +kernel
theorem dX12_sign_2 : decode cX12_sign 2 = .ok (.invokevirtual 168, 3) := by decide +kernel
theorem dX12_sign_5 : decode cX12_sign 5 = .ok (.ifCond .ne 9, 3) := by decide +kernel
theorem dX12_sign_8 : decode cX12_sign 8 = .ok (.aload_n 0, 1) := by decide +kernel
theorem dX12_sign_9 : decode cX12_sign 9 = .ok (.iconst 1, 1) := by decide +kernel
theorem dX12_sign_10 : decode cX12_sign 10 = .ok (.invokevirtual 171, 3) := by decide +kernel
theorem dX12_sign_13 : decode cX12_sign 13 = .ok (.ireturn, 1) := by decide +kernel
theorem dX12_sign_14 : decode cX12_sign 14 = .ok (.aload_n 0, 1) := by decide +kernel
theorem dX12_sign_15 : decode cX12_sign 15 = .ok (.invokevirtual 174, 3) := by decide +kernel
theorem dX12_sign_18 : decode cX12_sign 18 = .ok (.iconst 1, 1) := by decide +kernel
theorem dX12_sign_19 : decode cX12_sign 19 = .ok (.ireturn, 1) := by decide +kernel
theorem dX12_taken_0 : decode cX12_taken 0 = .ok (.aload_n 0, 1) := by decide +kernel
theorem dX12_taken_1 : decode cX12_taken 1 = .ok (.aload_n 0, 1) := by decide +kernel
theorem dX12_taken_2 : decode cX12_taken 2 = .ok (.getfield 7, 3) := by decide +kernel
theorem dX12_taken_5 : decode cX12_taken 5 = .ok (.putfield 18, 3) := by decide +kernel
theorem dX12_taken_8 : decode cX12_taken 8 = .ok (.aload_n 0, 1) := by decide +kernel
theorem dX12_taken_9 : decode cX12_taken 9 = .ok (.iconst 0, 1) := by decide +kernel
theorem dX12_taken_10 : decode cX12_taken 10 = .ok (.putfield 7, 3) := by decide +kernel
theorem dX12_taken_13 : decode cX12_taken 13 = .ok (.aload_n 0, 1) := by decide +kernel
theorem dX12_taken_14 : decode cX12_taken 14 = .ok (.iconst 0, 1) := by decide +kernel
theorem dX12_taken_15 : decode cX12_taken 15 = .ok (.putfield 21, 3) := by decide +kernel
theorem dX12_taken_18 : decode cX12_taken 18 = .ok (.aload_n 0, 1) := by decide +kernel
theorem dX12_taken_19 : decode cX12_taken 19 = .ok (.iload_n 1, 1) := by decide +kernel
theorem dX12_taken_20 : decode cX12_taken 20 = .ok (.putfield 24, 3) := by decide +kernel
theorem dX12_taken_23 : decode cX12_taken 23 = .ok (.return_, 1) := by decide +kernel
theorem dX12_takes_0 : decode cX12_takes 0 = .ok (.aload_n 0, 1) := by decide +kernel
theorem dX12_takes_1 : decode cX12_takes 1 = .ok (.getfield 145, 3) := by decide +kernel
theorem dX12_takes_4 : decode cX12_takes 4 = .ok (.iconst 2, 1) := by decide +kernel
theorem dX12_takes_5 : decode cX12_takes 5 = .ok (.if_icmp .eq 9, 3) := by decide +kernel
theorem dX12_takes_8 : decode cX12_takes 8 = .ok (.aload_n 0, 1) := by decide +kernel
theorem dX12_takes_9 : decode cX12_takes 9 = .ok (.iconst 1, 1) := by decide +kernel
theorem dX12_takes_10 : decode cX12_takes 10 = .ok (.invokevirtual 171, 3) := by decide +kernel
theorem dX12_takes_13 : decode cX12_takes 13 = .ok (.ireturn, 1) := by decide +kernel
theorem dX12_takes_14 : decode cX12_takes 14 = .ok (.aload_n 0, 1) := by decide +kernel
theorem dX12_takes_15 : decode cX12_takes 15 = .ok (.getfield 155, 3) := by decide +kernel
theorem dX12_takes_18 : decode cX12_takes 18 = .ok (.iload_n 1, 1) := by decide +kernel
theorem dX12_takes_19 : decode cX12_takes 19 = .ok (.iload_n 2, 1) := by decide +kernel
theorem dX12_takes_20 : decode cX12_takes 20 = .ok (.invokestatic 177, 3) := by decide +kernel
theorem dX12_takes_23 : decode cX12_takes 23 = .ok (.ifCond .ne 9, 3) := by decide +kernel
theorem dX12_takes_26 : decode cX12_takes 26 = .ok (.aload_n 0, 1) := by decide +kernel
theorem dX12_takes_27 : decode cX12_takes 27 = .ok (.iconst 2, 1) := by decide +kernel
theorem dX12_takes_28 : decode cX12_takes 28 = .ok (.invokevirtual 171, 3) := by decide +kernel
theorem dX12_takes_31 : decode cX12_takes 31 = .ok (.ireturn, 1) := by decide +kernel
theorem dX12_takes_32 : decode cX12_takes 32 = .ok (.aload_n 0, 1) := by decide +kernel
theorem dX12_takes_33 : decode cX12_takes 33 = .ok (.aload_n 0, 1) := by decide +kernel
theorem dX12_takes_34 : decode cX12_takes 34 = .ok (.getfield 155, 3) := by decide +kernel
theorem dX12_takes_37 : decode cX12_takes 37 = .ok (.putfield 181, 3) := by decide +kernel
theorem dX12_takes_40 : decode cX12_takes 40 = .ok (.aload_n 0, 1) := by decide +kernel
theorem dX12_takes_41 : decode cX12_takes 41 = .ok (.invokevirtual 174, 3) := by decide +kernel
theorem dX12_takes_44 : decode cX12_takes 44 = .ok (.iconst 1, 1) := by decide +kernel
theorem dX12_takes_45 : decode cX12_takes 45 = .ok (.ireturn, 1) := by decide +kernel
theorem dX12_town_0 : decode cX12_town 0 = .ok (.aload_n 0, 1) := by decide +kernel
theorem dX12_town_1 : decode cX12_town 1 = .ok (.iconst 0, 1) := by decide +kernel
theorem dX12_town_2 : decode cX12_town 2 = .ok (.putfield 1, 3) := by decide +kernel
theorem dX12_town_5 : decode cX12_town 5 = .ok (.aload_n 0, 1) := by decide +kernel
theorem dX12_town_6 : decode cX12_town 6 = .ok (.sipush 900, 3) := by decide +kernel
theorem dX12_town_9 : decode cX12_town 9 = .ok (.invokevirtual 218, 3) := by decide +kernel
theorem dX12_town_12 : decode cX12_town 12 = .ok (.aload_n 0, 1) := by decide +kernel
theorem dX12_town_13 : decode cX12_town 13 = .ok (.iconst 0, 1) := by decide +kernel
theorem dX12_town_14 : decode cX12_town 14 = .ok (.putfield 162, 3) := by decide +kernel
theorem dX12_town_17 : decode cX12_town 17 = .ok (.aload_n 0, 1) := by decide +kernel
theorem dX12_town_18 : decode cX12_town 18 = .ok (.iconst 0, 1) := by decide +kernel
theorem dX12_town_19 : decode cX12_town 19 = .ok (.putfield 221, 3) := by decide +kernel
theorem dX12_town_22 : decode cX12_town 22 = .ok (.aload_n 0, 1) := by decide +kernel
theorem dX12_town_23 : decode cX12_town 23 = .ok (.iconst 0, 1) := by decide +kernel
theorem dX12_town_24 : decode cX12_town 24 = .ok (.putfield 212, 3) := by decide +kernel
theorem dX12_town_27 : decode cX12_town 27 = .ok (.iconst 0, 1) := by decide +kernel
theorem dX12_town_28 : decode cX12_town 28 = .ok (.istore_n 1, 1) := by decide +kernel
theorem dX12_town_29 : decode cX12_town 29 = .ok (.iload_n 1, 1) := by decide +kernel
theorem dX12_town_30 : decode cX12_town 30 = .ok (.sipush 146, 3) := by decide +kernel
theorem dX12_town_33 : decode cX12_town 33 = .ok (.if_icmp .ge 16, 3) := by decide +kernel
theorem dX12_town_36 : decode cX12_town 36 = .ok (.aload_n 0, 1) := by decide +kernel
theorem dX12_town_37 : decode cX12_town 37 = .ok (.getfield 37, 3) := by decide +kernel
theorem dX12_town_40 : decode cX12_town 40 = .ok (.iload_n 1, 1) := by decide +kernel
theorem dX12_town_41 : decode cX12_town 41 = .ok (.iconst 0, 1) := by decide +kernel
theorem dX12_town_42 : decode cX12_town 42 = .ok (.iastore, 1) := by decide +kernel
theorem dX12_town_43 : decode cX12_town 43 = .ok (.iinc 1 1, 3) := by decide +kernel
theorem dX12_town_46 : decode cX12_town 46 = .ok (.goto (-17), 3) := by decide +kernel
theorem dX12_town_49 : decode cX12_town 49 = .ok (.aload_n 0, 1) := by decide +kernel
theorem dX12_town_50 : decode cX12_town 50 = .ok (.invokevirtual 174, 3) := by decide +kernel
theorem dX12_town_53 : decode cX12_town 53 = .ok (.aload_n 0, 1) := by decide +kernel
theorem dX12_town_54 : decode cX12_town 54 = .ok (.getfield 145, 3) := by decide +kernel
theorem dX12_town_57 : decode cX12_town 57 = .ok (.ifCond .eq 39, 3) := by decide +kernel
theorem dX12_town_60 : decode cX12_town 60 = .ok (.aload_n 0, 1) := by decide +kernel
theorem dX12_town_61 : decode cX12_town 61 = .ok (.invokevirtual 224, 3) := by decide +kernel
theorem dX12_town_64 : decode cX12_town 64 = .ok (.ifCond .eq 12, 3) := by decide +kernel
theorem dX12_town_67 : decode cX12_town 67 = .ok (.aload_n 0, 1) := by decide +kernel
theorem dX12_town_68 : decode cX12_town 68 = .ok (.bipush 59, 2) := by decide +kernel
theorem dX12_town_70 : decode cX12_town 70 = .ok (.invokevirtual 227, 3) := by decide +kernel
theorem dX12_town_73 : decode cX12_town 73 = .ok (.ifCond .ne 10, 3) := by decide +kernel
theorem dX12_town_76 : decode cX12_town 76 = .ok (.iconst (-1), 1) := by decide +kernel
theorem dX12_town_77 : decode cX12_town 77 = .ok (.aload_n 0, 1) := by decide +kernel
theorem dX12_town_78 : decode cX12_town 78 = .ok (.getfield 165, 3) := by decide +kernel
theorem dX12_town_81 : decode cX12_town 81 = .ok (.isub, 1) := by decide +kernel
theorem dX12_town_82 : decode cX12_town 82 = .ok (.ireturn, 1) := by decide +kernel
theorem dX12_town_83 : decode cX12_town 83 = .ok (.aload_n 0, 1) := by decide +kernel
theorem dX12_town_84 : decode cX12_town 84 = .ok (.dup, 1) := by decide +kernel
theorem dX12_town_85 : decode cX12_town 85 = .ok (.getfield 221, 3) := by decide +kernel
theorem dX12_town_88 : decode cX12_town 88 = .ok (.iconst 1, 1) := by decide +kernel
theorem dX12_town_89 : decode cX12_town 89 = .ok (.iadd, 1) := by decide +kernel
theorem dX12_town_90 : decode cX12_town 90 = .ok (.putfield 221, 3) := by decide +kernel
theorem dX12_town_93 : decode cX12_town 93 = .ok (.goto (-40), 3) := by decide +kernel
theorem dX12_town_96 : decode cX12_town 96 = .ok (.iconst 0, 1) := by decide +kernel
theorem dX12_town_97 : decode cX12_town 97 = .ok (.istore_n 1, 1) := by decide +kernel
theorem dX12_town_98 : decode cX12_town 98 = .ok (.iload_n 1, 1) := by decide +kernel
theorem dX12_town_99 : decode cX12_town 99 = .ok (.sipush 2187, 3) := by decide +kernel
theorem dX12_town_102 : decode cX12_town 102 = .ok (.if_icmp .ge 32, 3) := by decide +kernel
theorem dX12_town_105 : decode cX12_town 105 = .ok (.aload_n 0, 1) := by decide +kernel
theorem dX12_town_106 : decode cX12_town 106 = .ok (.getfield 33, 3) := by decide +kernel
theorem dX12_town_109 : decode cX12_town 109 = .ok (.iload_n 1, 1) := by decide +kernel
theorem dX12_town_110 : decode cX12_town 110 = .ok (.iload_n 1, 1) := by decide +kernel
theorem dX12_town_111 : decode cX12_town 111 = .ok (.sipush 146, 3) := by decide +kernel
theorem dX12_town_114 : decode cX12_town 114 = .ok (.if_icmp .ge 12, 3) := by decide +kernel
theorem dX12_town_117 : decode cX12_town 117 = .ok (.aload_n 0, 1) := by decide +kernel
theorem dX12_town_118 : decode cX12_town 118 = .ok (.getfield 37, 3) := by decide +kernel
theorem dX12_town_121 : decode cX12_town 121 = .ok (.iload_n 1, 1) := by decide +kernel
theorem dX12_town_122 : decode cX12_town 122 = .ok (.iaload, 1) := by decide +kernel
theorem dX12_town_123 : decode cX12_town 123 = .ok (.goto 4, 3) := by decide +kernel
theorem dX12_town_126 : decode cX12_town 126 = .ok (.iconst 0, 1) := by decide +kernel
theorem dX12_town_127 : decode cX12_town 127 = .ok (.iastore, 1) := by decide +kernel
theorem dX12_town_128 : decode cX12_town 128 = .ok (.iinc 1 1, 3) := by decide +kernel
theorem dX12_town_131 : decode cX12_town 131 = .ok (.goto (-33), 3) := by decide +kernel
theorem dX12_town_134 : decode cX12_town 134 = .ok (.iconst 0, 1) := by decide +kernel
theorem dX12_town_135 : decode cX12_town 135 = .ok (.istore_n 1, 1) := by decide +kernel
theorem dX12_town_136 : decode cX12_town 136 = .ok (.iload_n 1, 1) := by decide +kernel
theorem dX12_town_137 : decode cX12_town 137 = .ok (.bipush 18, 2) := by decide +kernel
theorem dX12_town_139 : decode cX12_town 139 = .ok (.if_icmp .ge 24, 3) := by decide +kernel
theorem dX12_town_142 : decode cX12_town 142 = .ok (.aload_n 0, 1) := by decide +kernel
theorem dX12_town_143 : decode cX12_town 143 = .ok (.getfield 43, 3) := by decide +kernel
theorem dX12_town_146 : decode cX12_town 146 = .ok (.iload_n 1, 1) := by decide +kernel
theorem dX12_town_147 : decode cX12_town 147 = .ok (.aload_n 0, 1) := by decide +kernel
theorem dX12_town_148 : decode cX12_town 148 = .ok (.getfield 43, 3) := by decide +kernel
theorem dX12_town_151 : decode cX12_town 151 = .ok (.bipush 18, 2) := by decide +kernel
theorem dX12_town_153 : decode cX12_town 153 = .ok (.iload_n 1, 1) := by decide +kernel
theorem dX12_town_154 : decode cX12_town 154 = .ok (.iadd, 1) := by decide +kernel
theorem dX12_town_155 : decode cX12_town 155 = .ok (.laload, 1) := by decide +kernel
theorem dX12_town_156 : decode cX12_town 156 = .ok (.lastore, 1) := by decide +kernel
theorem dX12_town_157 : decode cX12_town 157 = .ok (.iinc 1 1, 3) := by decide +kernel
theorem dX12_town_160 : decode cX12_town 160 = .ok (.goto (-24), 3) := by decide +kernel
theorem dX12_town_163 : decode cX12_town 163 = .ok (.iconst 0, 1) := by decide +kernel
theorem dX12_town_164 : decode cX12_town 164 = .ok (.istore_n 1, 1) := by decide +kernel
theorem dX12_town_165 : decode cX12_town 165 = .ok (.iload_n 1, 1) := by decide +kernel
theorem dX12_town_166 : decode cX12_town 166 = .ok (.bipush 9, 2) := by decide +kernel
theorem dX12_town_168 : decode cX12_town 168 = .ok (.if_icmp .ge 66, 3) := by decide +kernel
theorem dX12_town_171 : decode cX12_town 171 = .ok (.aload_n 0, 1) := by decide +kernel
theorem dX12_town_172 : decode cX12_town 172 = .ok (.getfield 33, 3) := by decide +kernel
theorem dX12_town_175 : decode cX12_town 175 = .ok (.sipush 161, 3) := by decide +kernel
theorem dX12_town_178 : decode cX12_town 178 = .ok (.iload_n 1, 1) := by decide +kernel
theorem dX12_town_179 : decode cX12_town 179 = .ok (.iadd, 1) := by decide +kernel
theorem dX12_town_180 : decode cX12_town 180 = .ok (.aload_n 0, 1) := by decide +kernel
theorem dX12_town_181 : decode cX12_town 181 = .ok (.getfield 33, 3) := by decide +kernel
theorem dX12_town_184 : decode cX12_town 184 = .ok (.bipush 38, 2) := by decide +kernel
theorem dX12_town_186 : decode cX12_town 186 = .ok (.iload_n 1, 1) := by decide +kernel
theorem dX12_town_187 : decode cX12_town 187 = .ok (.iadd, 1) := by decide +kernel
theorem dX12_town_188 : decode cX12_town 188 = .ok (.iaload, 1) := by decide +kernel
theorem dX12_town_189 : decode cX12_town 189 = .ok (.iastore, 1) := by decide +kernel
theorem dX12_town_190 : decode cX12_town 190 = .ok (.aload_n 0, 1) := by decide +kernel
theorem dX12_town_191 : decode cX12_town 191 = .ok (.getfield 33, 3) := by decide +kernel
theorem dX12_town_194 : decode cX12_town 194 = .ok (.sipush 170, 3) := by decide +kernel
theorem dX12_town_197 : decode cX12_town 197 = .ok (.iload_n 1, 1) := by decide +kernel
theorem dX12_town_198 : decode cX12_town 198 = .ok (.iadd, 1) := by decide +kernel
theorem dX12_town_199 : decode cX12_town 199 = .ok (.aload_n 0, 1) := by decide +kernel
theorem dX12_town_200 : decode cX12_town 200 = .ok (.getfield 33, 3) := by decide +kernel
theorem dX12_town_203 : decode cX12_town 203 = .ok (.bipush 29, 2) := by decide +kernel
theorem dX12_town_205 : decode cX12_town 205 = .ok (.iload_n 1, 1) := by decide +kernel
theorem dX12_town_206 : decode cX12_town 206 = .ok (.iadd, 1) := by decide +kernel
theorem dX12_town_207 : decode cX12_town 207 = .ok (.iaload, 1) := by decide +kernel
theorem dX12_town_208 : decode cX12_town 208 = .ok (.iastore, 1) := by decide +kernel
theorem dX12_town_209 : decode cX12_town 209 = .ok (.aload_n 0, 1) := by decide +kernel
theorem dX12_town_210 : decode cX12_town 210 = .ok (.getfield 33, 3) := by decide +kernel
theorem dX12_town_213 : decode cX12_town 213 = .ok (.sipush 188, 3) := by decide +kernel
theorem dX12_town_216 : decode cX12_town 216 = .ok (.iload_n 1, 1) := by decide +kernel
theorem dX12_town_217 : decode cX12_town 217 = .ok (.iadd, 1) := by decide +kernel
theorem dX12_town_218 : decode cX12_town 218 = .ok (.aload_n 0, 1) := by decide +kernel
theorem dX12_town_219 : decode cX12_town 219 = .ok (.getfield 33, 3) := by decide +kernel
theorem dX12_town_222 : decode cX12_town 222 = .ok (.bipush 11, 2) := by decide +kernel
theorem dX12_town_224 : decode cX12_town 224 = .ok (.iload_n 1, 1) := by decide +kernel
theorem dX12_town_225 : decode cX12_town 225 = .ok (.iadd, 1) := by decide +kernel
theorem dX12_town_226 : decode cX12_town 226 = .ok (.iaload, 1) := by decide +kernel
theorem dX12_town_227 : decode cX12_town 227 = .ok (.iastore, 1) := by decide +kernel
theorem dX12_town_228 : decode cX12_town 228 = .ok (.iinc 1 1, 3) := by decide +kernel
theorem dX12_town_231 : decode cX12_town 231 = .ok (.goto (-66), 3) := by decide +kernel
theorem dX12_town_234 : decode cX12_town 234 = .ok (.iconst 0, 1) := by decide +kernel
theorem dX12_town_235 : decode cX12_town 235 = .ok (.istore_n 1, 1) := by decide +kernel
theorem dX12_town_236 : decode cX12_town 236 = .ok (.iload_n 1, 1) := by decide +kernel
theorem dX12_town_237 : decode cX12_town 237 = .ok (.aload_n 0, 1) := by decide +kernel
theorem dX12_town_238 : decode cX12_town 238 = .ok (.getfield 33, 3) := by decide +kernel
theorem dX12_town_241 : decode cX12_town 241 = .ok (.iconst 1, 1) := by decide +kernel
theorem dX12_town_242 : decode cX12_town 242 = .ok (.iaload, 1) := by decide +kernel
theorem dX12_town_243 : decode cX12_town 243 = .ok (.if_icmp .ge 27, 3) := by decide +kernel
theorem dX12_town_246 : decode cX12_town 246 = .ok (.aload_n 0, 1) := by decide +kernel
theorem dX12_town_247 : decode cX12_town 247 = .ok (.getfield 33, 3) := by decide +kernel
theorem dX12_town_250 : decode cX12_town 250 = .ok (.sipush 161, 3) := by decide +kernel
theorem dX12_town_253 : decode cX12_town 253 = .ok (.iload_n 1, 1) := by decide +kernel
theorem dX12_town_254 : decode cX12_town 254 = .ok (.iadd, 1) := by decide +kernel
theorem dX12_town_255 : decode cX12_town 255 = .ok (.iaload, 1) := by decide +kernel
theorem dX12_town_256 : decode cX12_town 256 = .ok (.ifCond .ne 8, 3) := by decide +kernel
theorem dX12_town_259 : decode cX12_town 259 = .ok (.aload_n 0, 1) := by decide +kernel
theorem dX12_town_260 : decode cX12_town 260 = .ok (.iload_n 1, 1) := by decide +kernel
theorem dX12_town_261 : decode cX12_town 261 = .ok (.invokevirtual 230, 3) := by decide +kernel
theorem dX12_town_264 : decode cX12_town 264 = .ok (.iinc 1 1, 3) := by decide +kernel
theorem dX12_town_267 : decode cX12_town 267 = .ok (.goto (-31), 3) := by decide +kernel
theorem dX12_town_270 : decode cX12_town 270 = .ok (.aload_n 0, 1) := by decide +kernel
theorem dX12_town_271 : decode cX12_town 271 = .ok (.iconst 0, 1) := by decide +kernel
theorem dX12_town_272 : decode cX12_town 272 = .ok (.putfield 233, 3) := by decide +kernel
theorem dX12_town_275 : decode cX12_town 275 = .ok (.aload_n 0, 1) := by decide +kernel
theorem dX12_town_276 : decode cX12_town 276 = .ok (.getfield 221, 3) := by decide +kernel
theorem dX12_town_279 : decode cX12_town 279 = .ok (.ireturn, 1) := by decide +kernel
