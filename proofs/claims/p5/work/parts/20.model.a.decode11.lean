theorem dX12_sell_36 : decode cX12_sell 36 = .ok (.invokevirtual 299, 3) := by decide +kernel
theorem dX12_sell_39 : decode cX12_sell 39 = .ok (.iconst 0, 1) := by decide +kernel
theorem dX12_sell_40 : decode cX12_sell 40 = .ok (.ireturn, 1) := by decide +kernel
theorem dX12_sellsName_0 : decode cX12_sellsName 0 = .ok (.aload_n 0, 1) := by decide +kernel
theorem dX12_sellsName_1 : decode cX12_sellsName 1 = .ok (.getfield 33, 3) := by decide +kernel
theorem dX12_sellsName_4 : decode cX12_sellsName 4 = .ok (.iconst 2, 1) := by decide +kernel
theorem dX12_sellsName_5 : decode cX12_sellsName 5 = .ok (.aload_n 0, 1) := by decide +kernel
theorem dX12_sellsName_6 : decode cX12_sellsName 6 = .ok (.getfield 33, 3) := by decide +kernel
theorem dX12_sellsName_9 : decode cX12_sellsName 9 = .ok (.sipush 161, 3) := by decide +kernel
theorem dX12_sellsName_12 : decode cX12_sellsName 12 = .ok (.iload_n 1, 1) := by decide +kernel
theorem dX12_sellsName_13 : decode cX12_sellsName 13 = .ok (.iadd, 1) := by decide +kernel
theorem dX12_sellsName_14 : decode cX12_sellsName 14 = .ok (.iaload, 1) := by decide +kernel
theorem dX12_sellsName_15 : decode cX12_sellsName 15 = .ok (.iadd, 1) := by decide +kernel
theorem dX12_sellsName_16 : decode cX12_sellsName 16 = .ok (.iconst 1, 1) := by decide +kernel
theorem dX12_sellsName_17 : decode cX12_sellsName 17 = .ok (.isub, 1) := by decide +kernel
theorem dX12_sellsName_18 : decode cX12_sellsName 18 = .ok (.iaload, 1) := by decide +kernel
theorem dX12_sellsName_19 : decode cX12_sellsName 19 = .ok (.istore_n 3, 1) := by decide +kernel
theorem dX12_sellsName_20 : decode cX12_sellsName 20 = .ok (.aload_n 0, 1) := by decide +kernel
theorem dX12_sellsName_21 : decode cX12_sellsName 21 = .ok (.getfield 33, 3) := by decide +kernel
theorem dX12_sellsName_24 : decode cX12_sellsName 24 = .ok (.sipush 170, 3) := by decide +kernel
theorem dX12_sellsName_27 : decode cX12_sellsName 27 = .ok (.iload_n 2, 1) := by decide +kernel
theorem dX12_sellsName_28 : decode cX12_sellsName 28 = .ok (.iadd, 1) := by decide +kernel
theorem dX12_sellsName_29 : decode cX12_sellsName 29 = .ok (.dup2, 1) := by decide +kernel
theorem dX12_sellsName_30 : decode cX12_sellsName 30 = .ok (.iaload, 1) := by decide +kernel
theorem dX12_sellsName_31 : decode cX12_sellsName 31 = .ok (.iload_n 3, 1) := by decide +kernel
theorem dX12_sellsName_32 : decode cX12_sellsName 32 = .ok (.isub, 1) := by decide +kernel
theorem dX12_sellsName_33 : decode cX12_sellsName 33 = .ok (.iastore, 1) := by decide +kernel
theorem dX12_sellsName_34 : decode cX12_sellsName 34 = .ok (.aload_n 0, 1) := by decide +kernel
theorem dX12_sellsName_35 : decode cX12_sellsName 35 = .ok (.getfield 33, 3) := by decide +kernel
theorem dX12_sellsName_38 : decode cX12_sellsName 38 = .ok (.sipush 170, 3) := by decide +kernel
theorem dX12_sellsName_41 : decode cX12_sellsName 41 = .ok (.iload_n 1, 1) := by decide +kernel
theorem dX12_sellsName_42 : decode cX12_sellsName 42 = .ok (.iadd, 1) := by decide +kernel
theorem dX12_sellsName_43 : decode cX12_sellsName 43 = .ok (.dup2, 1) := by decide +kernel
theorem dX12_sellsName_44 : decode cX12_sellsName 44 = .ok (.iaload, 1) := by decide +kernel
theorem dX12_sellsName_45 : decode cX12_sellsName 45 = .ok (.iload_n 3, 1) := by decide +kernel
theorem dX12_sellsName_46 : decode cX12_sellsName 46 = .ok (.iadd, 1) := by decide +kernel
theorem dX12_sellsName_47 : decode cX12_sellsName 47 = .ok (.iastore, 1) := by decide +kernel
theorem dX12_sellsName_48 : decode cX12_sellsName 48 = .ok (.aload_n 0, 1) := by decide +kernel
theorem dX12_sellsName_49 : decode cX12_sellsName 49 = .ok (.getfield 33, 3) := by decide +kernel
theorem dX12_sellsName_52 : decode cX12_sellsName 52 = .ok (.sipush 161, 3) := by decide +kernel
theorem dX12_sellsName_55 : decode cX12_sellsName 55 = .ok (.iload_n 2, 1) := by decide +kernel
theorem dX12_sellsName_56 : decode cX12_sellsName 56 = .ok (.iadd, 1) := by decide +kernel
theorem dX12_sellsName_57 : decode cX12_sellsName 57 = .ok (.aload_n 0, 1) := by decide +kernel
theorem dX12_sellsName_58 : decode cX12_sellsName 58 = .ok (.getfield 33, 3) := by decide +kernel
theorem dX12_sellsName_61 : decode cX12_sellsName 61 = .ok (.sipush 161, 3) := by decide +kernel
theorem dX12_sellsName_64 : decode cX12_sellsName 64 = .ok (.iload_n 1, 1) := by decide +kernel
theorem dX12_sellsName_65 : decode cX12_sellsName 65 = .ok (.iadd, 1) := by decide +kernel
theorem dX12_sellsName_66 : decode cX12_sellsName 66 = .ok (.iaload, 1) := by decide +kernel
theorem dX12_sellsName_67 : decode cX12_sellsName 67 = .ok (.iastore, 1) := by decide +kernel
theorem dX12_sellsName_68 : decode cX12_sellsName 68 = .ok (.aload_n 0, 1) := by decide +kernel
theorem dX12_sellsName_69 : decode cX12_sellsName 69 = .ok (.getfield 33, 3) := by decide +kernel
theorem dX12_sellsName_72 : decode cX12_sellsName 72 = .ok (.sipush 161, 3) := by decide +kernel
theorem dX12_sellsName_75 : decode cX12_sellsName 75 = .ok (.iload_n 1, 1) := by decide +kernel
theorem dX12_sellsName_76 : decode cX12_sellsName 76 = .ok (.iadd, 1) := by decide +kernel
theorem dX12_sellsName_77 : decode cX12_sellsName 77 = .ok (.iconst 0, 1) := by decide +kernel
theorem dX12_sellsName_78 : decode cX12_sellsName 78 = .ok (.iastore, 1) := by decide +kernel
theorem dX12_sellsName_79 : decode cX12_sellsName 79 = .ok (.aload_n 0, 1) := by decide +kernel
theorem dX12_sellsName_80 : decode cX12_sellsName 80 = .ok (.iload_n 2, 1) := by decide +kernel
theorem dX12_sellsName_81 : decode cX12_sellsName 81 = .ok (.invokevirtual 268, 3) := by decide +kernel
theorem dX12_sellsName_84 : decode cX12_sellsName 84 = .ok (.aload_n 0, 1) := by decide +kernel
theorem dX12_sellsName_85 : decode cX12_sellsName 85 = .ok (.iload_n 1, 1) := by decide +kernel
theorem dX12_sellsName_86 : decode cX12_sellsName 86 = .ok (.invokevirtual 230, 3) := by decide +kernel
theorem dX12_sellsName_89 : decode cX12_sellsName 89 = .ok (.aload_n 0, 1) := by decide +kernel
theorem dX12_sellsName_90 : decode cX12_sellsName 90 = .ok (.iload_n 1, 1) := by decide +kernel
theorem dX12_sellsName_91 : decode cX12_sellsName 91 = .ok (.invokevirtual 271, 3) := by decide +kernel
theorem dX12_sellsName_94 : decode cX12_sellsName 94 = .ok (.aload_n 0, 1) := by decide +kernel
theorem dX12_sellsName_95 : decode cX12_sellsName 95 = .ok (.iload_n 2, 1) := by decide +kernel
theorem dX12_sellsName_96 : decode cX12_sellsName 96 = .ok (.invokevirtual 271, 3) := by decide +kernel
theorem dX12_sellsName_99 : decode cX12_sellsName 99 = .ok (.return_, 1) := by decide +kernel
theorem dX12_sentence_0 : decode cX12_sentence 0 = .ok (.aload_n 0, 1) := by decide +kernel
theorem dX12_sentence_1 : decode cX12_sentence 1 = .ok (.iconst 0, 1) := by decide +kernel
theorem dX12_sentence_2 : decode cX12_sentence 2 = .ok (.putfield 1, 3) := by decide +kernel
theorem dX12_sentence_5 : decode cX12_sentence 5 = .ok (.aload_n 0, 1) := by decide +kernel
theorem dX12_sentence_6 : decode cX12_sentence 6 = .ok (.sipush 200, 3) := by decide +kernel
theorem dX12_sentence_9 : decode cX12_sentence 9 = .ok (.invokevirtual 218, 3) := by decide +kernel
theorem dX12_sentence_12 : decode cX12_sentence 12 = .ok (.aload_n 0, 1) := by decide +kernel
theorem dX12_sentence_13 : decode cX12_sentence 13 = .ok (.iconst 0, 1) := by decide +kernel
theorem dX12_sentence_14 : decode cX12_sentence 14 = .ok (.putfield 162, 3) := by decide +kernel
theorem dX12_sentence_17 : decode cX12_sentence 17 = .ok (.aload_n 0, 1) := by decide +kernel
theorem dX12_sentence_18 : decode cX12_sentence 18 = .ok (.iconst 0, 1) := by decide +kernel
theorem dX12_sentence_19 : decode cX12_sentence 19 = .ok (.putfield 418, 3) := by decide +kernel
theorem dX12_sentence_22 : decode cX12_sentence 22 = .ok (.aload_n 0, 1) := by decide +kernel
theorem dX12_sentence_23 : decode cX12_sentence 23 = .ok (.iconst 0, 1) := by decide +kernel
theorem dX12_sentence_24 : decode cX12_sentence 24 = .ok (.putfield 433, 3) := by decide +kernel
theorem dX12_sentence_27 : decode cX12_sentence 27 = .ok (.aload_n 0, 1) := by decide +kernel
theorem dX12_sentence_28 : decode cX12_sentence 28 = .ok (.iconst 0, 1) := by decide +kernel
theorem dX12_sentence_29 : decode cX12_sentence 29 = .ok (.putfield 421, 3) := by decide +kernel
theorem dX12_sentence_32 : decode cX12_sentence 32 = .ok (.aload_n 0, 1) := by decide +kernel
theorem dX12_sentence_33 : decode cX12_sentence 33 = .ok (.iconst 1, 1) := by decide +kernel
theorem dX12_sentence_34 : decode cX12_sentence 34 = .ok (.putfield 427, 3) := by decide +kernel
theorem dX12_sentence_37 : decode cX12_sentence 37 = .ok (.aload_n 0, 1) := by decide +kernel
theorem dX12_sentence_38 : decode cX12_sentence 38 = .ok (.iconst 0, 1) := by decide +kernel
theorem dX12_sentence_39 : decode cX12_sentence 39 = .ok (.putfield 436, 3) := by decide +kernel
theorem dX12_sentence_42 : decode cX12_sentence 42 = .ok (.aload_n 0, 1) := by decide +kernel
theorem dX12_sentence_43 : decode cX12_sentence 43 = .ok (.invokevirtual 174, 3) := by decide +kernel
theorem dX12_sentence_46 : decode cX12_sentence 46 = .ok (.iconst 1, 1) := by decide +kernel
theorem dX12_sentence_47 : decode cX12_sentence 47 = .ok (.istore_n 1, 1) := by decide +kernel
theorem dX12_sentence_48 : decode cX12_sentence 48 = .ok (.iload_n 1, 1) := by decide +kernel
theorem dX12_sentence_49 : decode cX12_sentence 49 = .ok (.ifCond .eq 83, 3) := by decide +kernel
theorem dX12_sentence_52 : decode cX12_sentence 52 = .ok (.aload_n 0, 1) := by decide +kernel
theorem dX12_sentence_53 : decode cX12_sentence 53 = .ok (.getfield 436, 3) := by decide +kernel
theorem dX12_sentence_56 : decode cX12_sentence 56 = .ok (.ifCond .eq 45, 3) := by decide +kernel
theorem dX12_sentence_59 : decode cX12_sentence 59 = .ok (.aload_n 0, 1) := by decide +kernel
theorem dX12_sentence_60 : decode cX12_sentence 60 = .ok (.getfield 145, 3) := by decide +kernel
theorem dX12_sentence_63 : decode cX12_sentence 63 = .ok (.ifCond .ne 38, 3) := by decide +kernel
theorem dX12_sentence_66 : decode cX12_sentence 66 = .ok (.aload_n 0, 1) := by decide +kernel
theorem dX12_sentence_67 : decode cX12_sentence 67 = .ok (.invokevirtual 439, 3) := by decide +kernel
theorem dX12_sentence_70 : decode cX12_sentence 70 = .ok (.aload_n 0, 1) := by decide +kernel
theorem dX12_sentence_71 : decode cX12_sentence 71 = .ok (.bipush 22, 2) := by decide +kernel
theorem dX12_sentence_73 : decode cX12_sentence 73 = .ok (.invokevirtual 442, 3) := by decide +kernel
theorem dX12_sentence_76 : decode cX12_sentence 76 = .ok (.aload_n 0, 1) := by decide +kernel
theorem dX12_sentence_77 : decode cX12_sentence 77 = .ok (.getfield 421, 3) := by decide +kernel
theorem dX12_sentence_80 : decode cX12_sentence 80 = .ok (.ifCond .le 16, 3) := by decide +kernel
theorem dX12_sentence_83 : decode cX12_sentence 83 = .ok (.aload_n 0, 1) := by decide +kernel
theorem dX12_sentence_84 : decode cX12_sentence 84 = .ok (.iconst 1, 1) := by decide +kernel
theorem dX12_sentence_85 : decode cX12_sentence 85 = .ok (.invokevirtual 171, 3) := by decide +kernel
theorem dX12_sentence_88 : decode cX12_sentence 88 = .ok (.pop, 1) := by decide +kernel
theorem dX12_sentence_89 : decode cX12_sentence 89 = .ok (.iconst (-1), 1) := by decide +kernel
theorem dX12_sentence_90 : decode cX12_sentence 90 = .ok (.aload_n 0, 1) := by decide +kernel
theorem dX12_sentence_91 : decode cX12_sentence 91 = .ok (.getfield 165, 3) := by decide +kernel
theorem dX12_sentence_94 : decode cX12_sentence 94 = .ok (.isub, 1) := by decide +kernel
theorem dX12_sentence_95 : decode cX12_sentence 95 = .ok (.ireturn, 1) := by decide +kernel
theorem dX12_sentence_96 : decode cX12_sentence 96 = .ok (.iconst 0, 1) := by decide +kernel
theorem dX12_sentence_97 : decode cX12_sentence 97 = .ok (.istore_n 1, 1) := by decide +kernel
theorem dX12_sentence_98 : decode cX12_sentence 98 = .ok (.goto (-50), 3) := by decide +kernel
theorem dX12_sentence_101 : decode cX12_sentence 101 = .ok (.aload_n 0, 1) := by decide +kernel
theorem dX12_sentence_102 : decode cX12_sentence 102 = .ok (.getfield 436, 3) := by decide +kernel
theorem dX12_sentence_105 : decode cX12_sentence 105 = .ok (.ifCond .eq 13, 3) := by decide +kernel
theorem dX12_sentence_108 : decode cX12_sentence 108 = .ok (.aload_n 0, 1) := by decide +kernel
theorem dX12_sentence_109 : decode cX12_sentence 109 = .ok (.invokevirtual 445, 3) := by decide +kernel
theorem dX12_sentence_112 : decode cX12_sentence 112 = .ok (.ifCond .ne (-64), 3) := by decide +kernel
theorem dX12_sentence_115 : decode cX12_sentence 115 = .ok (.goto 10, 3) := by decide +kernel
theorem dX12_sentence_118 : decode cX12_sentence 118 = .ok (.aload_n 0, 1) := by decide +kernel
theorem dX12_sentence_119 : decode cX12_sentence 119 = .ok (.invokevirtual 448, 3) := by decide +kernel
theorem dX12_sentence_122 : decode cX12_sentence 122 = .ok (.ifCond .ne (-74), 3) := by decide +kernel
theorem dX12_sentence_125 : decode cX12_sentence 125 = .ok (.iconst (-1), 1) := by decide +kernel
theorem dX12_sentence_126 : decode cX12_sentence 126 = .ok (.aload_n 0, 1) := by decide +kernel
theorem dX12_sentence_127 : decode cX12_sentence 127 = .ok (.getfield 165, 3) := by decide +kernel
theorem dX12_sentence_130 : decode cX12_sentence 130 = .ok (.isub, 1) := by decide +kernel
theorem dX12_sentence_131 : decode cX12_sentence 131 = .ok (.ireturn, 1) := by decide +kernel
theorem dX12_sentence_132 : decode cX12_sentence 132 = .ok (.aload_n 0, 1) := by decide +kernel
theorem dX12_sentence_133 : decode cX12_sentence 133 = .ok (.getfield 33, 3) := by decide +kernel
theorem dX12_sentence_136 : decode cX12_sentence 136 = .ok (.sipush 2006, 3) := by decide +kernel
theorem dX12_sentence_139 : decode cX12_sentence 139 = .ok (.aload_n 0, 1) := by decide +kernel
theorem dX12_sentence_140 : decode cX12_sentence 140 = .ok (.getfield 418, 3) := by decide +kernel
theorem dX12_sentence_143 : decode cX12_sentence 143 = .ok (.iastore, 1) := by decide +kernel
theorem dX12_sentence_144 : decode cX12_sentence 144 = .ok (.iconst 0, 1) := by decide +kernel
theorem dX12_sentence_145 : decode cX12_sentence 145 = .ok (.istore_n 2, 1) := by decide +kernel
theorem dX12_sentence_146 : decode cX12_sentence 146 = .ok (.iload_n 2, 1) := by decide +kernel
theorem dX12_sentence_147 : decode cX12_sentence 147 = .ok (.iconst 3, 1) := by decide +kernel
theorem dX12_sentence_148 : decode cX12_sentence 148 = .ok (.aload_n 0, 1) := by decide +kernel
theorem dX12_sentence_149 : decode cX12_sentence 149 = .ok (.getfield 418, 3) := by decide +kernel
theorem dX12_sentence_152 : decode cX12_sentence 152 = .ok (.imul, 1) := by decide +kernel
theorem dX12_sentence_153 : decode cX12_sentence 153 = .ok (.if_icmp .ge 25, 3) := by decide +kernel
theorem dX12_sentence_156 : decode cX12_sentence 156 = .ok (.aload_n 0, 1) := by decide +kernel
theorem dX12_sentence_157 : decode cX12_sentence 157 = .ok (.getfield 33, 3) := by decide +kernel
theorem dX12_sentence_160 : decode cX12_sentence 160 = .ok (.sipush 2007, 3) := by decide +kernel
theorem dX12_sentence_163 : decode cX12_sentence 163 = .ok (.iload_n 2, 1) := by decide +kernel
theorem dX12_sentence_164 : decode cX12_sentence 164 = .ok (.iadd, 1) := by decide +kernel
theorem dX12_sentence_165 : decode cX12_sentence 165 = .ok (.aload_n 0, 1) := by decide +kernel
theorem dX12_sentence_166 : decode cX12_sentence 166 = .ok (.getfield 40, 3) := by decide +kernel
theorem dX12_sentence_169 : decode cX12_sentence 169 = .ok (.iload_n 2, 1) := by decide +kernel
theorem dX12_sentence_170 : decode cX12_sentence 170 = .ok (.iaload, 1) := by decide +kernel
theorem dX12_sentence_171 : decode cX12_sentence 171 = .ok (.iastore, 1) := by decide +kernel
theorem dX12_sentence_172 : decode cX12_sentence 172 = .ok (.iinc 2 1, 3) := by decide +kernel
theorem dX12_sentence_175 : decode cX12_sentence 175 = .ok (.goto (-29), 3) := by decide +kernel
theorem dX12_sentence_178 : decode cX12_sentence 178 = .ok (.aload_n 0, 1) := by decide +kernel
theorem dX12_sentence_179 : decode cX12_sentence 179 = .ok (.getfield 433, 3) := by decide +kernel
theorem dX12_sentence_182 : decode cX12_sentence 182 = .ok (.ireturn, 1) := by decide +kernel
theorem dX12_sign_0 : decode cX12_sign 0 = .ok (.aload_n 0, 1) := by decide +kernel
theorem dX12_sign_1 : decode cX12_sign 1 = .ok (.iload_n 1, 1) := by decide +kernel
theorem dX12_sign_2 : decode cX12_sign 2 = .ok (.invokevirtual 168, 3) := by decide +kernel
theorem dX12_sign_5 : decode cX12_sign 5 = .ok (.ifCond .ne 9, 3) := by decide +kernel
theorem dX12_sign_8 : decode cX12_sign 8 = .ok (.aload_n 0, 1) := by decide +kernel
theorem dX12_sign_9 : decode cX12_sign 9 = .ok (.iconst 1, 1) := by decide +kernel
theorem dX12_sign_10 : decode cX12_sign 10 = .ok (.invokevirtual 171, 3) := by decide +kernel
theorem dX12_sign_13 : decode cX12_sign 13 = .ok (.ireturn, 1) := by decide +kernel
theorem dX12_sign_14 : decode cX12_sign 14 = .ok (.aload_n 0, 1) := by decide +kernel
theorem dX12_sign_15 : decode cX12_sign 15 = .ok (.invokevirtual 174, 3) := by decide +kernel
theorem dX12_sign_18 : decode cX12_sign 18 = .ok (.iconst 1, 1) := by decide +kernel
theorem dX12_sign_19 : decode cX12_sign 19 = .ok (.ireturn, 1) := by decide +kernel
theorem dX12_soul_0 : decode cX12_soul 0 = .ok (.aload_n 0, 1) := by decide +kernel
theorem dX12_soul_1 : decode cX12_soul 1 = .ok (.aload_n 0, 1) := by decide +kernel
theorem dX12_soul_2 : decode cX12_soul 2 = .ok (.iload_n 1, 1) := by decide +kernel
theorem dX12_soul_3 : decode cX12_soul 3 = .ok (.invokevirtual 236, 3) := by decide +kernel
theorem dX12_soul_6 : decode cX12_soul 6 = .ok (.ifCond .eq 13, 3) := by decide +kernel
theorem dX12_soul_9 : decode cX12_soul 9 = .ok (.iload_n 2, 1) := by decide +kernel
theorem dX12_soul_10 : decode cX12_soul 10 = .ok (.iconst 0, 1) := by decide +kernel
theorem dX12_soul_11 : decode cX12_soul 11 = .ok (.bipush 7, 2) := by decide +kernel
theorem dX12_soul_13 : decode cX12_soul 13 = .ok (.invokestatic 177, 3) := by decide +kernel
theorem dX12_soul_16 : decode cX12_soul 16 = .ok (.ifCond .ne 7, 3) := by decide +kernel
theorem dX12_soul_19 : decode cX12_soul 19 = .ok (.iconst 1, 1) := by decide +kernel
theorem dX12_soul_20 : decode cX12_soul 20 = .ok (.goto 4, 3) := by decide +kernel
theorem dX12_soul_23 : decode cX12_soul 23 = .ok (.iconst 0, 1) := by decide +kernel
theorem dX12_soul_24 : decode cX12_soul 24 = .ok (.invokevirtual 252, 3) := by decide +kernel
theorem dX12_soul_27 : decode cX12_soul 27 = .ok (.ifCond .eq 5, 3) := by decide +kernel
theorem dX12_soul_30 : decode cX12_soul 30 = .ok (.iconst 0, 1) := by decide +kernel
theorem dX12_soul_31 : decode cX12_soul 31 = .ok (.ireturn, 1) := by decide +kernel
theorem dX12_soul_32 : decode cX12_soul 32 = .ok (.iload_n 2, 1) := by decide +kernel
theorem dX12_soul_33 : decode cX12_soul 33 = .ok (.tableswitch 125 0 6 #[43, 56, 67, 81, 93, 99, 112], 43) := by decide +kernel
theorem dX12_soul_76 : decode cX12_soul 76 = .ok (.aload_n 0, 1) := by decide +kernel
theorem dX12_soul_77 : decode cX12_soul 77 = .ok (.getfield 33, 3) := by decide +kernel
theorem dX12_soul_80 : decode cX12_soul 80 = .ok (.sipush 161, 3) := by decide +kernel
theorem dX12_soul_83 : decode cX12_soul 83 = .ok (.iload_n 1, 1) := by decide +kernel
theorem dX12_soul_84 : decode cX12_soul 84 = .ok (.iadd, 1) := by decide +kernel
theorem dX12_soul_85 : decode cX12_soul 85 = .ok (.iaload, 1) := by decide +kernel
theorem dX12_soul_86 : decode cX12_soul 86 = .ok (.iconst 1, 1) := by decide +kernel
theorem dX12_soul_87 : decode cX12_soul 87 = .ok (.isub, 1) := by decide +kernel
theorem dX12_soul_88 : decode cX12_soul 88 = .ok (.ireturn, 1) := by decide +kernel
theorem dX12_soul_89 : decode cX12_soul 89 = .ok (.aload_n 0, 1) := by decide +kernel
theorem dX12_soul_90 : decode cX12_soul 90 = .ok (.getfield 33, 3) := by decide +kernel
theorem dX12_soul_93 : decode cX12_soul 93 = .ok (.sipush 170, 3) := by decide +kernel
theorem dX12_soul_96 : decode cX12_soul 96 = .ok (.iload_n 1, 1) := by decide +kernel
theorem dX12_soul_97 : decode cX12_soul 97 = .ok (.iadd, 1) := by decide +kernel
theorem dX12_soul_98 : decode cX12_soul 98 = .ok (.iaload, 1) := by decide +kernel
theorem dX12_soul_99 : decode cX12_soul 99 = .ok (.ireturn, 1) := by decide +kernel
theorem dX12_soul_100 : decode cX12_soul 100 = .ok (.aload_n 0, 1) := by decide +kernel
theorem dX12_soul_101 : decode cX12_soul 101 = .ok (.iload_n 1, 1) := by decide +kernel
theorem dX12_soul_102 : decode cX12_soul 102 = .ok (.invokevirtual 256, 3) := by decide +kernel
theorem dX12_soul_105 : decode cX12_soul 105 = .ok (.ifCond .eq 7, 3) := by decide +kernel
theorem dX12_soul_108 : decode cX12_soul 108 = .ok (.iconst 0, 1) := by decide +kernel
theorem dX12_soul_109 : decode cX12_soul 109 = .ok (.goto 4, 3) := by decide +kernel
theorem dX12_soul_112 : decode cX12_soul 112 = .ok (.iconst 1, 1) := by decide +kernel
theorem dX12_soul_113 : decode cX12_soul 113 = .ok (.ireturn, 1) := by decide +kernel
theorem dX12_soul_114 : decode cX12_soul 114 = .ok (.aload_n 0, 1) := by decide +kernel
theorem dX12_soul_115 : decode cX12_soul 115 = .ok (.getfield 33, 3) := by decide +kernel
theorem dX12_soul_118 : decode cX12_soul 118 = .ok (.bipush 47, 2) := by decide +kernel
theorem dX12_soul_120 : decode cX12_soul 120 = .ok (.iload_n 1, 1) := by decide +kernel
theorem dX12_soul_121 : decode cX12_soul 121 = .ok (.iadd, 1) := by decide +kernel
theorem dX12_soul_122 : decode cX12_soul 122 = .ok (.iaload, 1) := by decide +kernel
theorem dX12_soul_123 : decode cX12_soul 123 = .ok (.iconst 1, 1) := by decide +kernel
theorem dX12_soul_124 : decode cX12_soul 124 = .ok (.isub, 1) := by decide +kernel
theorem dX12_soul_125 : decode cX12_soul 125 = .ok (.ireturn, 1) := by decide +kernel
theorem dX12_soul_126 : decode cX12_soul 126 = .ok (.aload_n 0, 1) := by decide +kernel
theorem dX12_soul_127 : decode cX12_soul 127 = .ok (.iload_n 1, 1) := by decide +kernel
theorem dX12_soul_128 : decode cX12_soul 128 = .ok (.invokevirtual 259, 3) := by decide +kernel
theorem dX12_soul_131 : decode cX12_soul 131 = .ok (.ireturn, 1) := by decide +kernel
theorem dX12_soul_132 : decode cX12_soul 132 = .ok (.aload_n 0, 1) := by decide +kernel
theorem dX12_soul_133 : decode cX12_soul 133 = .ok (.getfield 33, 3) := by decide +kernel
theorem dX12_soul_136 : decode cX12_soul 136 = .ok (.sipush 149, 3) := by decide +kernel
theorem dX12_soul_139 : decode cX12_soul 139 = .ok (.iaload, 1) := by decide +kernel
theorem dX12_soul_140 : decode cX12_soul 140 = .ok (.iload_n 1, 1) := by decide +kernel
theorem dX12_soul_141 : decode cX12_soul 141 = .ok (.ishr, 1) := by decide +kernel
theorem dX12_soul_142 : decode cX12_soul 142 = .ok (.iconst 1, 1) := by decide +kernel
theorem dX12_soul_143 : decode cX12_soul 143 = .ok (.iand, 1) := by decide +kernel
theorem dX12_soul_144 : decode cX12_soul 144 = .ok (.ireturn, 1) := by decide +kernel
theorem dX12_soul_145 : decode cX12_soul 145 = .ok (.aload_n 0, 1) := by decide +kernel
theorem dX12_soul_146 : decode cX12_soul 146 = .ok (.getfield 33, 3) := by decide +kernel
theorem dX12_soul_149 : decode cX12_soul 149 = .ok (.sipush 150, 3) := by decide +kernel
theorem dX12_soul_152 : decode cX12_soul 152 = .ok (.iaload, 1) := by decide +kernel
theorem dX12_soul_153 : decode cX12_soul 153 = .ok (.iload_n 1, 1) := by decide +kernel
theorem dX12_soul_154 : decode cX12_soul 154 = .ok (.ishr, 1) := by decide +kernel
theorem dX12_soul_155 : decode cX12_soul 155 = .ok (.iconst 1, 1) := by decide +kernel
theorem dX12_soul_156 : decode cX12_soul 156 = .ok (.iand, 1) := by decide +kernel
theorem dX12_soul_157 : decode cX12_soul 157 = .ok (.ireturn, 1) := by decide +kernel
theorem dX12_soul_158 : decode cX12_soul 158 = .ok (.aload_n 0, 1) := by decide +kernel
theorem dX12_soul_159 : decode cX12_soul 159 = .ok (.getfield 33, 3) := by decide +kernel
theorem dX12_soul_162 : decode cX12_soul 162 = .ok (.sipush 179, 3) := by decide +kernel
theorem dX12_soul_165 : decode cX12_soul 165 = .ok (.iload_n 1, 1) := by decide +kernel
theorem dX12_soul_166 : decode cX12_soul 166 = .ok (.iadd, 1) := by decide +kernel
theorem dX12_soul_167 : decode cX12_soul 167 = .ok (.iaload, 1) := by decide +kernel
theorem dX12_soul_168 : decode cX12_soul 168 = .ok (.ireturn, 1) := by decide +kernel
theorem dX12_sum_0 : decode cX12_sum 0 = .ok (.iconst 0, 1) := by decide +kernel
theorem dX12_sum_1 : decode cX12_sum 1 = .ok (.istore_n 2, 1) := by decide +kernel
theorem dX12_sum_2 : decode cX12_sum 2 = .ok (.iconst 0, 1) := by decide +kernel
theorem dX12_sum_3 : decode cX12_sum 3 = .ok (.istore_n 3, 1) := by decide +kernel
theorem dX12_sum_4 : decode cX12_sum 4 = .ok (.iload_n 3, 1) := by decide +kernel
theorem dX12_sum_5 : decode cX12_sum 5 = .ok (.bipush 9, 2) := by decide +kernel
theorem dX12_sum_7 : decode cX12_sum 7 = .ok (.if_icmp .ge 20, 3) := by decide +kernel
theorem dX12_sum_10 : decode cX12_sum 10 = .ok (.iload_n 2, 1) := by decide +kernel
theorem dX12_sum_11 : decode cX12_sum 11 = .ok (.aload_n 0, 1) := by decide +kernel
theorem dX12_sum_12 : decode cX12_sum 12 = .ok (.getfield 33, 3) := by decide +kernel
theorem dX12_sum_15 : decode cX12_sum 15 = .ok (.iload_n 1, 1) := by decide +kernel
theorem dX12_sum_16 : decode cX12_sum 16 = .ok (.iload_n 3, 1) := by decide +kernel
theorem dX12_sum_17 : decode cX12_sum 17 = .ok (.iadd, 1) := by decide +kernel
theorem dX12_sum_18 : decode cX12_sum 18 = .ok (.iaload, 1) := by decide +kernel
theorem dX12_sum_19 : decode cX12_sum 19 = .ok (.iadd, 1) := by decide +kernel
theorem dX12_sum_20 : decode cX12_sum 20 = .ok (.istore_n 2, 1) := by decide +kernel
theorem dX12_sum_21 : decode cX12_sum 21 = .ok (.iinc 3 1, 3) := by decide +kernel
theorem dX12_sum_24 : decode cX12_sum 24 = .ok (.goto (-20), 3) := by decide +kernel
theorem dX12_sum_27 : decode cX12_sum 27 = .ok (.iload_n 2, 1) := by decide +kernel
theorem dX12_sum_28 : decode cX12_sum 28 = .ok (.ireturn, 1) := by decide +kernel
theorem dX12_swap_0 : decode cX12_swap 0 = .ok (.aload_n 0, 1) := by decide +kernel
theorem dX12_swap_1 : decode cX12_swap 1 = .ok (.iconst 0, 1) := by decide +kernel
theorem dX12_swap_2 : decode cX12_swap 2 = .ok (.putfield 1, 3) := by decide +kernel
theorem dX12_swap_5 : decode cX12_swap 5 = .ok (.aload_n 0, 1) := by decide +kernel
theorem dX12_swap_6 : decode cX12_swap 6 = .ok (.iload_n 1, 1) := by decide +kernel
theorem dX12_swap_7 : decode cX12_swap 7 = .ok (.iload_n 2, 1) := by decide +kernel
theorem dX12_swap_8 : decode cX12_swap 8 = .ok (.invokevirtual 287, 3) := by decide +kernel
theorem dX12_swap_11 : decode cX12_swap 11 = .ok (.ifCond .ne 5, 3) := by decide +kernel
theorem dX12_swap_14 : decode cX12_swap 14 = .ok (.iconst (-1), 1) := by decide +kernel
theorem dX12_swap_15 : decode cX12_swap 15 = .ok (.ireturn, 1) := by decide +kernel
theorem dX12_swap_16 : decode cX12_swap 16 = .ok (.aload_n 0, 1) := by decide +kernel
theorem dX12_swap_17 : decode cX12_swap 17 = .ok (.iload_n 1, 1) := by decide +kernel
theorem dX12_swap_18 : decode cX12_swap 18 = .ok (.iload_n 2, 1) := by decide +kernel
theorem dX12_swap_19 : decode cX12_swap 19 = .ok (.invokevirtual 290, 3) := by decide +kernel
theorem dX12_swap_22 : decode cX12_swap 22 = .ok (.istore_n 3, 1) := by decide +kernel
theorem dX12_swap_23 : decode cX12_swap 23 = .ok (.iload_n 3, 1) := by decide +kernel
theorem dX12_swap_24 : decode cX12_swap 24 = .ok (.ifCond .le 5, 3) := by decide +kernel
theorem dX12_swap_27 : decode cX12_swap 27 = .ok (.iload_n 3, 1) := by decide +kernel
theorem dX12_swap_28 : decode cX12_swap 28 = .ok (.ireturn, 1) := by decide +kernel
theorem dX12_swap_29 : decode cX12_swap 29 = .ok (.aload_n 0, 1) := by decide +kernel
theorem dX12_swap_30 : decode cX12_swap 30 = .ok (.invokevirtual 280, 3) := by decide +kernel
theorem dX12_swap_33 : decode cX12_swap 33 = .ok (.aload_n 0, 1) := by decide +kernel
theorem dX12_swap_34 : decode cX12_swap 34 = .ok (.iload_n 1, 1) := by decide +kernel
theorem dX12_swap_35 : decode cX12_swap 35 = .ok (.iload_n 2, 1) := by decide +kernel
theorem dX12_swap_36 : decode cX12_swap 36 = .ok (.invokevirtual 293, 3) := by decide +kernel
theorem dX12_swap_39 : decode cX12_swap 39 = .ok (.iconst 0, 1) := by decide +kernel
theorem dX12_swap_40 : decode cX12_swap 40 = .ok (.ireturn, 1) := by decide +kernel
theorem dX12_swaps_0 : decode cX12_swaps 0 = .ok (.aload_n 0, 1) := by decide +kernel
theorem dX12_swaps_1 : decode cX12_swaps 1 = .ok (.iconst 0, 1) := by decide +kernel
theorem dX12_swaps_2 : decode cX12_swaps 2 = .ok (.putfield 1, 3) := by decide +kernel
theorem dX12_swaps_5 : decode cX12_swaps 5 = .ok (.aload_n 0, 1) := by decide +kernel
theorem dX12_swaps_6 : decode cX12_swaps 6 = .ok (.invokevirtual 344, 3) := by decide +kernel
theorem dX12_swaps_9 : decode cX12_swaps 9 = .ok (.ifCond .ne 5, 3) := by decide +kernel
theorem dX12_swaps_12 : decode cX12_swaps 12 = .ok (.iconst (-1), 1) := by decide +kernel
theorem dX12_swaps_13 : decode cX12_swaps 13 = .ok (.ireturn, 1) := by decide +kernel
theorem dX12_swaps_14 : decode cX12_swaps 14 = .ok (.iconst 0, 1) := by decide +kernel
theorem dX12_swaps_15 : decode cX12_swaps 15 = .ok (.istore_n 1, 1) := by decide +kernel
theorem dX12_swaps_16 : decode cX12_swaps 16 = .ok (.iconst 0, 1) := by decide +kernel
theorem dX12_swaps_17 : decode cX12_swaps 17 = .ok (.istore_n 2, 1) := by decide +kernel
theorem dX12_swaps_18 : decode cX12_swaps 18 = .ok (.iconst 0, 1) := by decide +kernel
theorem dX12_swaps_19 : decode cX12_swaps 19 = .ok (.istore_n 3, 1) := by decide +kernel
theorem dX12_swaps_20 : decode cX12_swaps 20 = .ok (.iload_n 3, 1) := by decide +kernel
theorem dX12_swaps_21 : decode cX12_swaps 21 = .ok (.aload_n 0, 1) := by decide +kernel
theorem dX12_swaps_22 : decode cX12_swaps 22 = .ok (.getfield 33, 3) := by decide +kernel
theorem dX12_swaps_25 : decode cX12_swaps 25 = .ok (.iconst 1, 1) := by decide +kernel
theorem dX12_swaps_26 : decode cX12_swaps 26 = .ok (.iaload, 1) := by decide +kernel
theorem dX12_swaps_27 : decode cX12_swaps 27 = .ok (.if_icmp .ge 123, 3) := by decide +kernel
theorem dX12_swaps_30 : decode cX12_swaps 30 = .ok (.aload_n 0, 1) := by decide +kernel
theorem dX12_swaps_31 : decode cX12_swaps 31 = .ok (.iload_n 3, 1) := by decide +kernel
theorem dX12_swaps_32 : decode cX12_swaps 32 = .ok (.invokevirtual 338, 3) := by decide +kernel
theorem dX12_swaps_35 : decode cX12_swaps 35 = .ok (.ifCond .eq 109, 3) := by decide +kernel
theorem dX12_swaps_38 : decode cX12_swaps 38 = .ok (.aload_n 0, 1) := by decide +kernel
theorem dX12_swaps_39 : decode cX12_swaps 39 = .ok (.iload_n 3, 1) := by decide +kernel
theorem dX12_swaps_40 : decode cX12_swaps 40 = .ok (.invokevirtual 347, 3) := by decide +kernel
theorem dX12_swaps_43 : decode cX12_swaps 43 = .ok (.ifCond .eq 6, 3) := by decide +kernel
theorem dX12_swaps_46 : decode cX12_swaps 46 = .ok (.goto 98, 3) := by decide +kernel
theorem dX12_swaps_49 : decode cX12_swaps 49 = .ok (.iinc 1 1, 3) := by decide +kernel
theorem dX12_swaps_52 : decode cX12_swaps 52 = .ok (.aload_n 0, 1) := by decide +kernel
theorem dX12_swaps_53 : decode cX12_swaps 53 = .ok (.iload_n 3, 1) := by decide +kernel
theorem dX12_swaps_54 : decode cX12_swaps 54 = .ok (.invokevirtual 341, 3) := by decide +kernel
theorem dX12_swaps_57 : decode cX12_swaps 57 = .ok (.istore 4, 2) := by decide +kernel
theorem dX12_swaps_59 : decode cX12_swaps 59 = .ok (.iload_n 3, 1) := by decide +kernel
theorem dX12_swaps_60 : decode cX12_swaps 60 = .ok (.istore 5, 2) := by decide +kernel
theorem dX12_swaps_62 : decode cX12_swaps 62 = .ok (.iload 4, 2) := by decide +kernel
theorem dX12_swaps_64 : decode cX12_swaps 64 = .ok (.iload_n 3, 1) := by decide +kernel
theorem dX12_swaps_65 : decode cX12_swaps 65 = .ok (.if_icmp .eq 57, 3) := by decide +kernel
theorem dX12_swaps_68 : decode cX12_swaps 68 = .ok (.aload_n 0, 1) := by decide +kernel
theorem dX12_swaps_69 : decode cX12_swaps 69 = .ok (.iload 4, 2) := by decide +kernel
theorem dX12_swaps_71 : decode cX12_swaps 71 = .ok (.invokevirtual 338, 3) := by decide +kernel
theorem dX12_swaps_74 : decode cX12_swaps 74 = .ok (.ifCond .eq 48, 3) := by decide +kernel
theorem dX12_swaps_77 : decode cX12_swaps 77 = .ok (.aload_n 0, 1) := by decide +kernel
theorem dX12_swaps_78 : decode cX12_swaps 78 = .ok (.iload 4, 2) := by decide +kernel
theorem dX12_swaps_80 : decode cX12_swaps 80 = .ok (.invokevirtual 347, 3) := by decide +kernel
theorem dX12_swaps_83 : decode cX12_swaps 83 = .ok (.ifCond .ne 39, 3) := by decide +kernel
theorem dX12_swaps_86 : decode cX12_swaps 86 = .ok (.iload_n 2, 1) := by decide +kernel
theorem dX12_swaps_87 : decode cX12_swaps 87 = .ok (.iload 4, 2) := by decide +kernel
theorem dX12_swaps_89 : decode cX12_swaps 89 = .ok (.invokestatic 215, 3) := by decide +kernel
theorem dX12_swaps_92 : decode cX12_swaps 92 = .ok (.ifCond .ne 30, 3) := by decide +kernel
theorem dX12_swaps_95 : decode cX12_swaps 95 = .ok (.iload_n 2, 1) := by decide +kernel
theorem dX12_swaps_96 : decode cX12_swaps 96 = .ok (.iconst 1, 1) := by decide +kernel
theorem dX12_swaps_97 : decode cX12_swaps 97 = .ok (.iload 4, 2) := by decide +kernel
theorem dX12_swaps_99 : decode cX12_swaps 99 = .ok (.ishl, 1) := by decide +kernel
theorem dX12_swaps_100 : decode cX12_swaps 100 = .ok (.ior, 1) := by decide +kernel
theorem dX12_swaps_101 : decode cX12_swaps 101 = .ok (.istore_n 2, 1) := by decide +kernel
theorem dX12_swaps_102 : decode cX12_swaps 102 = .ok (.iload 5, 2) := by decide +kernel
theorem dX12_swaps_104 : decode cX12_swaps 104 = .ok (.iload 4, 2) := by decide +kernel
theorem dX12_swaps_106 : decode cX12_swaps 106 = .ok (.invokestatic 350, 3) := by decide +kernel
theorem dX12_swaps_109 : decode cX12_swaps 109 = .ok (.istore 5, 2) := by decide +kernel
theorem dX12_swaps_111 : decode cX12_swaps 111 = .ok (.aload_n 0, 1) := by decide +kernel
theorem dX12_swaps_112 : decode cX12_swaps 112 = .ok (.iload 4, 2) := by decide +kernel
theorem dX12_swaps_114 : decode cX12_swaps 114 = .ok (.invokevirtual 341, 3) := by decide +kernel
theorem dX12_swaps_117 : decode cX12_swaps 117 = .ok (.istore 4, 2) := by decide +kernel
theorem dX12_swaps_119 : decode cX12_swaps 119 = .ok (.goto (-57), 3) := by decide +kernel
theorem dX12_swaps_122 : decode cX12_swaps 122 = .ok (.iload_n 1, 1) := by decide +kernel
theorem dX12_swaps_123 : decode cX12_swaps 123 = .ok (.iload 4, 2) := by decide +kernel
theorem dX12_swaps_125 : decode cX12_swaps 125 = .ok (.iload_n 3, 1) := by decide +kernel
theorem dX12_swaps_126 : decode cX12_swaps 126 = .ok (.if_icmp .ne 13, 3) := by decide +kernel
theorem dX12_swaps_129 : decode cX12_swaps 129 = .ok (.iload 5, 2) := by decide +kernel
theorem dX12_swaps_131 : decode cX12_swaps 131 = .ok (.iload_n 3, 1) := by decide +kernel
theorem dX12_swaps_132 : decode cX12_swaps 132 = .ok (.if_icmp .ne 7, 3) := by decide +kernel
theorem dX12_swaps_135 : decode cX12_swaps 135 = .ok (.iconst 1, 1) := by decide +kernel
theorem dX12_swaps_136 : decode cX12_swaps 136 = .ok (.goto 4, 3) := by decide +kernel
theorem dX12_swaps_139 : decode cX12_swaps 139 = .ok (.iconst 0, 1) := by decide +kernel
theorem dX12_swaps_140 : decode cX12_swaps 140 = .ok (.isub, 1) := by decide +kernel
theorem dX12_swaps_141 : decode cX12_swaps 141 = .ok (.istore_n 1, 1) := by decide +kernel
theorem dX12_swaps_142 : decode cX12_swaps 142 = .ok (.iconst 0, 1) := by decide +kernel
theorem dX12_swaps_143 : decode cX12_swaps 143 = .ok (.istore_n 2, 1) := by decide +kernel
theorem dX12_swaps_144 : decode cX12_swaps 144 = .ok (.iinc 3 1, 3) := by decide +kernel
theorem dX12_swaps_147 : decode cX12_swaps 147 = .ok (.goto (-127), 3) := by decide +kernel
theorem dX12_swaps_150 : decode cX12_swaps 150 = .ok (.iload_n 1, 1) := by decide +kernel
theorem dX12_swaps_151 : decode cX12_swaps 151 = .ok (.ireturn, 1) := by decide +kernel
theorem dX12_swapsNames_0 : decode cX12_swapsNames 0 = .ok (.aload_n 0, 1) := by decide +kernel
theorem dX12_swapsNames_1 : decode cX12_swapsNames 1 = .ok (.getfield 33, 3) := by decide +kernel
theorem dX12_swapsNames_4 : decode cX12_swapsNames 4 = .ok (.sipush 161, 3) := by decide +kernel
theorem dX12_swapsNames_7 : decode cX12_swapsNames 7 = .ok (.iload_n 1, 1) := by decide +kernel
theorem dX12_swapsNames_8 : decode cX12_swapsNames 8 = .ok (.iadd, 1) := by decide +kernel
theorem dX12_swapsNames_9 : decode cX12_swapsNames 9 = .ok (.iaload, 1) := by decide +kernel
theorem dX12_swapsNames_10 : decode cX12_swapsNames 10 = .ok (.istore_n 3, 1) := by decide +kernel
