theorem dX12_isSaid_117 : decode cX12_isSaid 117 = .ok (.baload, 1) := by decide +kernel
theorem dX12_isSaid_118 : decode cX12_isSaid 118 = .ok (.ifCond .eq 16, 3) := by decide +kernel
theorem dX12_isSaid_121 : decode cX12_isSaid 121 = .ok (.aload_n 0, 1) := by decide +kernel
theorem dX12_isSaid_122 : decode cX12_isSaid 122 = .ok (.getfield 68, 3) := by decide +kernel
theorem dX12_isSaid_125 : decode cX12_isSaid 125 = .ok (.iload_n 2, 1) := by decide +kernel
theorem dX12_isSaid_126 : decode cX12_isSaid 126 = .ok (.baload, 1) := by decide +kernel
theorem dX12_isSaid_127 : decode cX12_isSaid 127 = .ok (.ifCond .eq 7, 3) := by decide +kernel
theorem dX12_isSaid_130 : decode cX12_isSaid 130 = .ok (.iconst 1, 1) := by decide +kernel
theorem dX12_isSaid_131 : decode cX12_isSaid 131 = .ok (.goto 32, 3) := by decide +kernel
theorem dX12_isSaid_134 : decode cX12_isSaid 134 = .ok (.iconst 0, 1) := by decide +kernel
theorem dX12_isSaid_135 : decode cX12_isSaid 135 = .ok (.goto 28, 3) := by decide +kernel
theorem dX12_isSaid_138 : decode cX12_isSaid 138 = .ok (.aload_n 0, 1) := by decide +kernel
theorem dX12_isSaid_139 : decode cX12_isSaid 139 = .ok (.getfield 68, 3) := by decide +kernel
theorem dX12_isSaid_142 : decode cX12_isSaid 142 = .ok (.iload_n 2, 1) := by decide +kernel
theorem dX12_isSaid_143 : decode cX12_isSaid 143 = .ok (.iconst 1, 1) := by decide +kernel
theorem dX12_isSaid_144 : decode cX12_isSaid 144 = .ok (.isub, 1) := by decide +kernel
theorem dX12_isSaid_145 : decode cX12_isSaid 145 = .ok (.baload, 1) := by decide +kernel
theorem dX12_isSaid_146 : decode cX12_isSaid 146 = .ok (.ifCond .ne 12, 3) := by decide +kernel
theorem dX12_isSaid_149 : decode cX12_isSaid 149 = .ok (.aload_n 0, 1) := by decide +kernel
theorem dX12_isSaid_150 : decode cX12_isSaid 150 = .ok (.getfield 68, 3) := by decide +kernel
theorem dX12_isSaid_153 : decode cX12_isSaid 153 = .ok (.iload_n 2, 1) := by decide +kernel
theorem dX12_isSaid_154 : decode cX12_isSaid 154 = .ok (.baload, 1) := by decide +kernel
theorem dX12_isSaid_155 : decode cX12_isSaid 155 = .ok (.ifCond .eq 7, 3) := by decide +kernel
theorem dX12_isSaid_158 : decode cX12_isSaid 158 = .ok (.iconst 1, 1) := by decide +kernel
theorem dX12_isSaid_159 : decode cX12_isSaid 159 = .ok (.goto 4, 3) := by decide +kernel
theorem dX12_isSaid_162 : decode cX12_isSaid 162 = .ok (.iconst 0, 1) := by decide +kernel
theorem dX12_isSaid_163 : decode cX12_isSaid 163 = .ok (.bastore, 1) := by decide +kernel
theorem dX12_isSaid_164 : decode cX12_isSaid 164 = .ok (.goto 42, 3) := by decide +kernel
theorem dX12_isSaid_167 : decode cX12_isSaid 167 = .ok (.aload_n 0, 1) := by decide +kernel
theorem dX12_isSaid_168 : decode cX12_isSaid 168 = .ok (.getfield 68, 3) := by decide +kernel
theorem dX12_isSaid_171 : decode cX12_isSaid 171 = .ok (.iload_n 2, 1) := by decide +kernel
theorem dX12_isSaid_172 : decode cX12_isSaid 172 = .ok (.aload_n 0, 1) := by decide +kernel
theorem dX12_isSaid_173 : decode cX12_isSaid 173 = .ok (.iload_n 1, 1) := by decide +kernel
theorem dX12_isSaid_174 : decode cX12_isSaid 174 = .ok (.aload_n 0, 1) := by decide +kernel
theorem dX12_isSaid_175 : decode cX12_isSaid 175 = .ok (.getfield 33, 3) := by decide +kernel
theorem dX12_isSaid_178 : decode cX12_isSaid 178 = .ok (.iload 4, 2) := by decide +kernel
theorem dX12_isSaid_180 : decode cX12_isSaid 180 = .ok (.iaload, 1) := by decide +kernel
theorem dX12_isSaid_181 : decode cX12_isSaid 181 = .ok (.aload_n 0, 1) := by decide +kernel
theorem dX12_isSaid_182 : decode cX12_isSaid 182 = .ok (.getfield 33, 3) := by decide +kernel
theorem dX12_isSaid_185 : decode cX12_isSaid 185 = .ok (.iload 4, 2) := by decide +kernel
theorem dX12_isSaid_187 : decode cX12_isSaid 187 = .ok (.iconst 1, 1) := by decide +kernel
theorem dX12_isSaid_188 : decode cX12_isSaid 188 = .ok (.iadd, 1) := by decide +kernel
theorem dX12_isSaid_189 : decode cX12_isSaid 189 = .ok (.iaload, 1) := by decide +kernel
theorem dX12_isSaid_190 : decode cX12_isSaid 190 = .ok (.aload_n 0, 1) := by decide +kernel
theorem dX12_isSaid_191 : decode cX12_isSaid 191 = .ok (.getfield 33, 3) := by decide +kernel
theorem dX12_isSaid_194 : decode cX12_isSaid 194 = .ok (.iload 4, 2) := by decide +kernel
theorem dX12_isSaid_196 : decode cX12_isSaid 196 = .ok (.iconst 2, 1) := by decide +kernel
theorem dX12_isSaid_197 : decode cX12_isSaid 197 = .ok (.iadd, 1) := by decide +kernel
theorem dX12_isSaid_198 : decode cX12_isSaid 198 = .ok (.iaload, 1) := by decide +kernel
theorem dX12_isSaid_199 : decode cX12_isSaid 199 = .ok (.invokevirtual 451, 3) := by decide +kernel
theorem dX12_isSaid_202 : decode cX12_isSaid 202 = .ok (.bastore, 1) := by decide +kernel
theorem dX12_isSaid_203 : decode cX12_isSaid 203 = .ok (.iinc 2 1, 3) := by decide +kernel
theorem dX12_isSaid_206 : decode cX12_isSaid 206 = .ok (.iinc 3 1, 3) := by decide +kernel
theorem dX12_isSaid_209 : decode cX12_isSaid 209 = .ok (.goto (-205), 3) := by decide +kernel
theorem dX12_isSaid_212 : decode cX12_isSaid 212 = .ok (.aload_n 0, 1) := by decide +kernel
theorem dX12_isSaid_213 : decode cX12_isSaid 213 = .ok (.getfield 68, 3) := by decide +kernel
theorem dX12_isSaid_216 : decode cX12_isSaid 216 = .ok (.iconst 0, 1) := by decide +kernel
theorem dX12_isSaid_217 : decode cX12_isSaid 217 = .ok (.baload, 1) := by decide +kernel
theorem dX12_isSaid_218 : decode cX12_isSaid 218 = .ok (.ireturn, 1) := by decide +kernel
theorem dX12_isSign_0 : decode cX12_isSign 0 = .ok (.aload_n 0, 1) := by decide +kernel
theorem dX12_isSign_1 : decode cX12_isSign 1 = .ok (.getfield 145, 3) := by decide +kernel
theorem dX12_isSign_4 : decode cX12_isSign 4 = .ok (.iconst 3, 1) := by decide +kernel
theorem dX12_isSign_5 : decode cX12_isSign 5 = .ok (.if_icmp .ne 15, 3) := by decide +kernel
theorem dX12_isSign_8 : decode cX12_isSign 8 = .ok (.aload_n 0, 1) := by decide +kernel
theorem dX12_isSign_9 : decode cX12_isSign 9 = .ok (.getfield 155, 3) := by decide +kernel
theorem dX12_isSign_12 : decode cX12_isSign 12 = .ok (.iload_n 1, 1) := by decide +kernel
theorem dX12_isSign_13 : decode cX12_isSign 13 = .ok (.if_icmp .ne 7, 3) := by decide +kernel
theorem dX12_isSign_16 : decode cX12_isSign 16 = .ok (.iconst 1, 1) := by decide +kernel
theorem dX12_isSign_17 : decode cX12_isSign 17 = .ok (.goto 4, 3) := by decide +kernel
theorem dX12_isSign_20 : decode cX12_isSign 20 = .ok (.iconst 0, 1) := by decide +kernel
theorem dX12_isSign_21 : decode cX12_isSign 21 = .ok (.ireturn, 1) := by decide +kernel
theorem dX12_isSmall_0 : decode cX12_isSmall 0 = .ok (.iload_n 0, 1) := by decide +kernel
theorem dX12_isSmall_1 : decode cX12_isSmall 1 = .ok (.bipush 97, 2) := by decide +kernel
theorem dX12_isSmall_3 : decode cX12_isSmall 3 = .ok (.if_icmp .lt 13, 3) := by decide +kernel
theorem dX12_isSmall_6 : decode cX12_isSmall 6 = .ok (.iload_n 0, 1) := by decide +kernel
theorem dX12_isSmall_7 : decode cX12_isSmall 7 = .ok (.bipush 122, 2) := by decide +kernel
theorem dX12_isSmall_9 : decode cX12_isSmall 9 = .ok (.if_icmp .gt 7, 3) := by decide +kernel
theorem dX12_isSmall_12 : decode cX12_isSmall 12 = .ok (.iconst 1, 1) := by decide +kernel
theorem dX12_isSmall_13 : decode cX12_isSmall 13 = .ok (.goto 4, 3) := by decide +kernel
theorem dX12_isSmall_16 : decode cX12_isSmall 16 = .ok (.iconst 0, 1) := by decide +kernel
theorem dX12_isSmall_17 : decode cX12_isSmall 17 = .ok (.ireturn, 1) := by decide +kernel
theorem dX12_isSoul_0 : decode cX12_isSoul 0 = .ok (.iload_n 1, 1) := by decide +kernel
theorem dX12_isSoul_1 : decode cX12_isSoul 1 = .ok (.iconst 0, 1) := by decide +kernel
theorem dX12_isSoul_2 : decode cX12_isSoul 2 = .ok (.aload_n 0, 1) := by decide +kernel
theorem dX12_isSoul_3 : decode cX12_isSoul 3 = .ok (.getfield 33, 3) := by decide +kernel
theorem dX12_isSoul_6 : decode cX12_isSoul 6 = .ok (.iconst 1, 1) := by decide +kernel
theorem dX12_isSoul_7 : decode cX12_isSoul 7 = .ok (.iaload, 1) := by decide +kernel
theorem dX12_isSoul_8 : decode cX12_isSoul 8 = .ok (.iconst 1, 1) := by decide +kernel
theorem dX12_isSoul_9 : decode cX12_isSoul 9 = .ok (.isub, 1) := by decide +kernel
theorem dX12_isSoul_10 : decode cX12_isSoul 10 = .ok (.invokestatic 177, 3) := by decide +kernel
theorem dX12_isSoul_13 : decode cX12_isSoul 13 = .ok (.ireturn, 1) := by decide +kernel
theorem dX12_isWord_0 : decode cX12_isWord 0 = .ok (.aload_n 0, 1) := by decide +kernel
theorem dX12_isWord_1 : decode cX12_isWord 1 = .ok (.getfield 145, 3) := by decide +kernel
theorem dX12_isWord_4 : decode cX12_isWord 4 = .ok (.iconst 1, 1) := by decide +kernel
theorem dX12_isWord_5 : decode cX12_isWord 5 = .ok (.if_icmp .ne 16, 3) := by decide +kernel
theorem dX12_isWord_8 : decode cX12_isWord 8 = .ok (.aload_n 0, 1) := by decide +kernel
theorem dX12_isWord_9 : decode cX12_isWord 9 = .ok (.getfield 158, 3) := by decide +kernel
theorem dX12_isWord_12 : decode cX12_isWord 12 = .ok (.lload_n 1, 1) := by decide +kernel
theorem dX12_isWord_13 : decode cX12_isWord 13 = .ok (.lcmp, 1) := by decide +kernel
theorem dX12_isWord_14 : decode cX12_isWord 14 = .ok (.ifCond .ne 7, 3) := by decide +kernel
theorem dX12_isWord_17 : decode cX12_isWord 17 = .ok (.iconst 1, 1) := by decide +kernel
theorem dX12_isWord_18 : decode cX12_isWord 18 = .ok (.goto 4, 3) := by decide +kernel
theorem dX12_isWord_21 : decode cX12_isWord 21 = .ok (.iconst 0, 1) := by decide +kernel
theorem dX12_isWord_22 : decode cX12_isWord 22 = .ok (.ireturn, 1) := by decide +kernel
theorem dX12_joins_0 : decode cX12_joins 0 = .ok (.aload_n 0, 1) := by decide +kernel
theorem dX12_joins_1 : decode cX12_joins 1 = .ok (.getfield 421, 3) := by decide +kernel
theorem dX12_joins_4 : decode cX12_joins 4 = .ok (.ifCond .le 69, 3) := by decide +kernel
theorem dX12_joins_7 : decode cX12_joins 7 = .ok (.aload_n 0, 1) := by decide +kernel
theorem dX12_joins_8 : decode cX12_joins 8 = .ok (.getfield 65, 3) := by decide +kernel
theorem dX12_joins_11 : decode cX12_joins 11 = .ok (.aload_n 0, 1) := by decide +kernel
theorem dX12_joins_12 : decode cX12_joins 12 = .ok (.getfield 421, 3) := by decide +kernel
theorem dX12_joins_15 : decode cX12_joins 15 = .ok (.iconst 1, 1) := by decide +kernel
theorem dX12_joins_16 : decode cX12_joins 16 = .ok (.isub, 1) := by decide +kernel
theorem dX12_joins_17 : decode cX12_joins 17 = .ok (.iaload, 1) := by decide +kernel
theorem dX12_joins_18 : decode cX12_joins 18 = .ok (.bipush 21, 2) := by decide +kernel
theorem dX12_joins_20 : decode cX12_joins 20 = .ok (.if_icmp .eq 25, 3) := by decide +kernel
theorem dX12_joins_23 : decode cX12_joins 23 = .ok (.aload_n 0, 1) := by decide +kernel
theorem dX12_joins_24 : decode cX12_joins 24 = .ok (.getfield 65, 3) := by decide +kernel
theorem dX12_joins_27 : decode cX12_joins 27 = .ok (.aload_n 0, 1) := by decide +kernel
theorem dX12_joins_28 : decode cX12_joins 28 = .ok (.getfield 421, 3) := by decide +kernel
theorem dX12_joins_31 : decode cX12_joins 31 = .ok (.iconst 1, 1) := by decide +kernel
theorem dX12_joins_32 : decode cX12_joins 32 = .ok (.isub, 1) := by decide +kernel
theorem dX12_joins_33 : decode cX12_joins 33 = .ok (.iaload, 1) := by decide +kernel
theorem dX12_joins_34 : decode cX12_joins 34 = .ok (.bipush 22, 2) := by decide +kernel
theorem dX12_joins_36 : decode cX12_joins 36 = .ok (.if_icmp .ne 37, 3) := by decide +kernel
theorem dX12_joins_39 : decode cX12_joins 39 = .ok (.iload_n 1, 1) := by decide +kernel
theorem dX12_joins_40 : decode cX12_joins 40 = .ok (.bipush 22, 2) := by decide +kernel
theorem dX12_joins_42 : decode cX12_joins 42 = .ok (.if_icmp .ne 31, 3) := by decide +kernel
theorem dX12_joins_45 : decode cX12_joins 45 = .ok (.aload_n 0, 1) := by decide +kernel
theorem dX12_joins_46 : decode cX12_joins 46 = .ok (.dup, 1) := by decide +kernel
theorem dX12_joins_47 : decode cX12_joins 47 = .ok (.getfield 421, 3) := by decide +kernel
theorem dX12_joins_50 : decode cX12_joins 50 = .ok (.iconst 1, 1) := by decide +kernel
theorem dX12_joins_51 : decode cX12_joins 51 = .ok (.isub, 1) := by decide +kernel
theorem dX12_joins_52 : decode cX12_joins 52 = .ok (.putfield 421, 3) := by decide +kernel
theorem dX12_joins_55 : decode cX12_joins 55 = .ok (.aload_n 0, 1) := by decide +kernel
theorem dX12_joins_56 : decode cX12_joins 56 = .ok (.aload_n 0, 1) := by decide +kernel
theorem dX12_joins_57 : decode cX12_joins 57 = .ok (.getfield 65, 3) := by decide +kernel
theorem dX12_joins_60 : decode cX12_joins 60 = .ok (.aload_n 0, 1) := by decide +kernel
theorem dX12_joins_61 : decode cX12_joins 61 = .ok (.getfield 421, 3) := by decide +kernel
theorem dX12_joins_64 : decode cX12_joins 64 = .ok (.iaload, 1) := by decide +kernel
theorem dX12_joins_65 : decode cX12_joins 65 = .ok (.iconst 0, 1) := by decide +kernel
theorem dX12_joins_66 : decode cX12_joins 66 = .ok (.iconst 0, 1) := by decide +kernel
theorem dX12_joins_67 : decode cX12_joins 67 = .ok (.invokevirtual 424, 3) := by decide +kernel
theorem dX12_joins_70 : decode cX12_joins 70 = .ok (.goto (-70), 3) := by decide +kernel
theorem dX12_joins_73 : decode cX12_joins 73 = .ok (.return_, 1) := by decide +kernel
theorem dX12_keep_0 : decode cX12_keep 0 = .ok (.aload_n 0, 1) := by decide +kernel
theorem dX12_keep_1 : decode cX12_keep 1 = .ok (.getfield 233, 3) := by decide +kernel
theorem dX12_keep_4 : decode cX12_keep 4 = .ok (.iconst 4, 1) := by decide +kernel
theorem dX12_keep_5 : decode cX12_keep 5 = .ok (.if_icmp .ne 39, 3) := by decide +kernel
theorem dX12_keep_8 : decode cX12_keep 8 = .ok (.iconst 0, 1) := by decide +kernel
theorem dX12_keep_9 : decode cX12_keep 9 = .ok (.istore_n 1, 1) := by decide +kernel
theorem dX12_keep_10 : decode cX12_keep 10 = .ok (.iload_n 1, 1) := by decide +kernel
theorem dX12_keep_11 : decode cX12_keep 11 = .ok (.sipush 5580, 3) := by decide +kernel
theorem dX12_keep_14 : decode cX12_keep 14 = .ok (.if_icmp .ge 25, 3) := by decide +kernel
theorem dX12_keep_17 : decode cX12_keep 17 = .ok (.aload_n 0, 1) := by decide +kernel
theorem dX12_keep_18 : decode cX12_keep 18 = .ok (.getfield 50, 3) := by decide +kernel
theorem dX12_keep_21 : decode cX12_keep 21 = .ok (.iload_n 1, 1) := by decide +kernel
theorem dX12_keep_22 : decode cX12_keep 22 = .ok (.aload_n 0, 1) := by decide +kernel
theorem dX12_keep_23 : decode cX12_keep 23 = .ok (.getfield 50, 3) := by decide +kernel
theorem dX12_keep_26 : decode cX12_keep 26 = .ok (.iload_n 1, 1) := by decide +kernel
theorem dX12_keep_27 : decode cX12_keep 27 = .ok (.sipush 1860, 3) := by decide +kernel
theorem dX12_keep_30 : decode cX12_keep 30 = .ok (.iadd, 1) := by decide +kernel
theorem dX12_keep_31 : decode cX12_keep 31 = .ok (.iaload, 1) := by decide +kernel
theorem dX12_keep_32 : decode cX12_keep 32 = .ok (.iastore, 1) := by decide +kernel
theorem dX12_keep_33 : decode cX12_keep 33 = .ok (.iinc 1 1, 3) := by decide +kernel
theorem dX12_keep_36 : decode cX12_keep 36 = .ok (.goto (-26), 3) := by decide +kernel
theorem dX12_keep_39 : decode cX12_keep 39 = .ok (.aload_n 0, 1) := by decide +kernel
theorem dX12_keep_40 : decode cX12_keep 40 = .ok (.iconst 3, 1) := by decide +kernel
theorem dX12_keep_41 : decode cX12_keep 41 = .ok (.putfield 233, 3) := by decide +kernel
theorem dX12_keep_44 : decode cX12_keep 44 = .ok (.iconst 0, 1) := by decide +kernel
theorem dX12_keep_45 : decode cX12_keep 45 = .ok (.istore_n 1, 1) := by decide +kernel
theorem dX12_keep_46 : decode cX12_keep 46 = .ok (.iload_n 1, 1) := by decide +kernel
theorem dX12_keep_47 : decode cX12_keep 47 = .ok (.sipush 1860, 3) := by decide +kernel
theorem dX12_keep_50 : decode cX12_keep 50 = .ok (.if_icmp .ge 34, 3) := by decide +kernel
theorem dX12_keep_53 : decode cX12_keep 53 = .ok (.aload_n 0, 1) := by decide +kernel
theorem dX12_keep_54 : decode cX12_keep 54 = .ok (.getfield 50, 3) := by decide +kernel
theorem dX12_keep_57 : decode cX12_keep 57 = .ok (.sipush 1860, 3) := by decide +kernel
theorem dX12_keep_60 : decode cX12_keep 60 = .ok (.aload_n 0, 1) := by decide +kernel
theorem dX12_keep_61 : decode cX12_keep 61 = .ok (.getfield 233, 3) := by decide +kernel
theorem dX12_keep_64 : decode cX12_keep 64 = .ok (.imul, 1) := by decide +kernel
theorem dX12_keep_65 : decode cX12_keep 65 = .ok (.iload_n 1, 1) := by decide +kernel
theorem dX12_keep_66 : decode cX12_keep 66 = .ok (.iadd, 1) := by decide +kernel
theorem dX12_keep_67 : decode cX12_keep 67 = .ok (.aload_n 0, 1) := by decide +kernel
theorem dX12_keep_68 : decode cX12_keep 68 = .ok (.getfield 33, 3) := by decide +kernel
theorem dX12_keep_71 : decode cX12_keep 71 = .ok (.sipush 146, 3) := by decide +kernel
theorem dX12_keep_74 : decode cX12_keep 74 = .ok (.iload_n 1, 1) := by decide +kernel
theorem dX12_keep_75 : decode cX12_keep 75 = .ok (.iadd, 1) := by decide +kernel
theorem dX12_keep_76 : decode cX12_keep 76 = .ok (.iaload, 1) := by decide +kernel
theorem dX12_keep_77 : decode cX12_keep 77 = .ok (.iastore, 1) := by decide +kernel
theorem dX12_keep_78 : decode cX12_keep 78 = .ok (.iinc 1 1, 3) := by decide +kernel
theorem dX12_keep_81 : decode cX12_keep 81 = .ok (.goto (-35), 3) := by decide +kernel
theorem dX12_keep_84 : decode cX12_keep 84 = .ok (.aload_n 0, 1) := by decide +kernel
theorem dX12_keep_85 : decode cX12_keep 85 = .ok (.dup, 1) := by decide +kernel
theorem dX12_keep_86 : decode cX12_keep 86 = .ok (.getfield 233, 3) := by decide +kernel
theorem dX12_keep_89 : decode cX12_keep 89 = .ok (.iconst 1, 1) := by decide +kernel
theorem dX12_keep_90 : decode cX12_keep 90 = .ok (.iadd, 1) := by decide +kernel
theorem dX12_keep_91 : decode cX12_keep 91 = .ok (.putfield 233, 3) := by decide +kernel
theorem dX12_keep_94 : decode cX12_keep 94 = .ok (.return_, 1) := by decide +kernel
theorem dX12_keptOf_0 : decode cX12_keptOf 0 = .ok (.aload_n 0, 1) := by decide +kernel
theorem dX12_keptOf_1 : decode cX12_keptOf 1 = .ok (.getfield 33, 3) := by decide +kernel
theorem dX12_keptOf_4 : decode cX12_keptOf 4 = .ok (.sipush 206, 3) := by decide +kernel
theorem dX12_keptOf_7 : decode cX12_keptOf 7 = .ok (.sipush 200, 3) := by decide +kernel
theorem dX12_keptOf_10 : decode cX12_keptOf 10 = .ok (.iload_n 1, 1) := by decide +kernel
theorem dX12_keptOf_11 : decode cX12_keptOf 11 = .ok (.imul, 1) := by decide +kernel
theorem dX12_keptOf_12 : decode cX12_keptOf 12 = .ok (.iadd, 1) := by decide +kernel
theorem dX12_keptOf_13 : decode cX12_keptOf 13 = .ok (.iload_n 2, 1) := by decide +kernel
theorem dX12_keptOf_14 : decode cX12_keptOf 14 = .ok (.iadd, 1) := by decide +kernel
theorem dX12_keptOf_15 : decode cX12_keptOf 15 = .ok (.iaload, 1) := by decide +kernel
theorem dX12_keptOf_16 : decode cX12_keptOf 16 = .ok (.iconst 1, 1) := by decide +kernel
theorem dX12_keptOf_17 : decode cX12_keptOf 17 = .ok (.isub, 1) := by decide +kernel
theorem dX12_keptOf_18 : decode cX12_keptOf 18 = .ok (.ireturn, 1) := by decide +kernel
theorem dX12_leafOf_0 : decode cX12_leafOf 0 = .ok (.aload_n 0, 1) := by decide +kernel
theorem dX12_leafOf_1 : decode cX12_leafOf 1 = .ok (.ldc2_w 119, 3) := by decide +kernel
theorem dX12_leafOf_4 : decode cX12_leafOf 4 = .ok (.invokevirtual 196, 3) := by decide +kernel
theorem dX12_leafOf_7 : decode cX12_leafOf 7 = .ok (.ifCond .eq 7, 3) := by decide +kernel
theorem dX12_leafOf_10 : decode cX12_leafOf 10 = .ok (.iconst 0, 1) := by decide +kernel
theorem dX12_leafOf_11 : decode cX12_leafOf 11 = .ok (.goto 119, 3) := by decide +kernel
theorem dX12_leafOf_14 : decode cX12_leafOf 14 = .ok (.aload_n 0, 1) := by decide +kernel
theorem dX12_leafOf_15 : decode cX12_leafOf 15 = .ok (.ldc2_w 121, 3) := by decide +kernel
theorem dX12_leafOf_18 : decode cX12_leafOf 18 = .ok (.invokevirtual 196, 3) := by decide +kernel
theorem dX12_leafOf_21 : decode cX12_leafOf 21 = .ok (.ifCond .eq 7, 3) := by decide +kernel
theorem dX12_leafOf_24 : decode cX12_leafOf 24 = .ok (.iconst 1, 1) := by decide +kernel
theorem dX12_leafOf_25 : decode cX12_leafOf 25 = .ok (.goto 105, 3) := by decide +kernel
theorem dX12_leafOf_28 : decode cX12_leafOf 28 = .ok (.aload_n 0, 1) := by decide +kernel
theorem dX12_leafOf_29 : decode cX12_leafOf 29 = .ok (.ldc2_w 123, 3) := by decide +kernel
theorem dX12_leafOf_32 : decode cX12_leafOf 32 = .ok (.invokevirtual 196, 3) := by decide +kernel
theorem dX12_leafOf_35 : decode cX12_leafOf 35 = .ok (.ifCond .eq 7, 3) := by decide +kernel
theorem dX12_leafOf_38 : decode cX12_leafOf 38 = .ok (.iconst 2, 1) := by decide +kernel
theorem dX12_leafOf_39 : decode cX12_leafOf 39 = .ok (.goto 91, 3) := by decide +kernel
theorem dX12_leafOf_42 : decode cX12_leafOf 42 = .ok (.aload_n 0, 1) := by decide +kernel
theorem dX12_leafOf_43 : decode cX12_leafOf 43 = .ok (.ldc2_w 125, 3) := by decide +kernel
theorem dX12_leafOf_46 : decode cX12_leafOf 46 = .ok (.invokevirtual 196, 3) := by decide +kernel
theorem dX12_leafOf_49 : decode cX12_leafOf 49 = .ok (.ifCond .eq 7, 3) := by decide +kernel
theorem dX12_leafOf_52 : decode cX12_leafOf 52 = .ok (.iconst 3, 1) := by decide +kernel
theorem dX12_leafOf_53 : decode cX12_leafOf 53 = .ok (.goto 77, 3) := by decide +kernel
theorem dX12_leafOf_56 : decode cX12_leafOf 56 = .ok (.aload_n 0, 1) := by decide +kernel
theorem dX12_leafOf_57 : decode cX12_leafOf 57 = .ok (.ldc2_w 89, 3) := by decide +kernel
theorem dX12_leafOf_60 : decode cX12_leafOf 60 = .ok (.invokevirtual 196, 3) := by decide +kernel
theorem dX12_leafOf_63 : decode cX12_leafOf 63 = .ok (.ifCond .eq 7, 3) := by decide +kernel
theorem dX12_leafOf_66 : decode cX12_leafOf 66 = .ok (.iconst 4, 1) := by decide +kernel
theorem dX12_leafOf_67 : decode cX12_leafOf 67 = .ok (.goto 63, 3) := by decide +kernel
theorem dX12_leafOf_70 : decode cX12_leafOf 70 = .ok (.aload_n 0, 1) := by decide +kernel
theorem dX12_leafOf_71 : decode cX12_leafOf 71 = .ok (.ldc2_w 127, 3) := by decide +kernel
theorem dX12_leafOf_74 : decode cX12_leafOf 74 = .ok (.invokevirtual 196, 3) := by decide +kernel
theorem dX12_leafOf_77 : decode cX12_leafOf 77 = .ok (.ifCond .eq 7, 3) := by decide +kernel
theorem dX12_leafOf_80 : decode cX12_leafOf 80 = .ok (.iconst 5, 1) := by decide +kernel
theorem dX12_leafOf_81 : decode cX12_leafOf 81 = .ok (.goto 49, 3) := by decide +kernel
theorem dX12_leafOf_84 : decode cX12_leafOf 84 = .ok (.aload_n 0, 1) := by decide +kernel
theorem dX12_leafOf_85 : decode cX12_leafOf 85 = .ok (.ldc2_w 129, 3) := by decide +kernel
theorem dX12_leafOf_88 : decode cX12_leafOf 88 = .ok (.invokevirtual 196, 3) := by decide +kernel
theorem dX12_leafOf_91 : decode cX12_leafOf 91 = .ok (.ifCond .eq 8, 3) := by decide +kernel
theorem dX12_leafOf_94 : decode cX12_leafOf 94 = .ok (.bipush 6, 2) := by decide +kernel
theorem dX12_leafOf_96 : decode cX12_leafOf 96 = .ok (.goto 34, 3) := by decide +kernel
theorem dX12_leafOf_99 : decode cX12_leafOf 99 = .ok (.aload_n 0, 1) := by decide +kernel
theorem dX12_leafOf_100 : decode cX12_leafOf 100 = .ok (.ldc2_w 131, 3) := by decide +kernel
theorem dX12_leafOf_103 : decode cX12_leafOf 103 = .ok (.invokevirtual 196, 3) := by decide +kernel
theorem dX12_leafOf_106 : decode cX12_leafOf 106 = .ok (.ifCond .eq 8, 3) := by decide +kernel
theorem dX12_leafOf_109 : decode cX12_leafOf 109 = .ok (.bipush 7, 2) := by decide +kernel
theorem dX12_leafOf_111 : decode cX12_leafOf 111 = .ok (.goto 19, 3) := by decide +kernel
theorem dX12_leafOf_114 : decode cX12_leafOf 114 = .ok (.aload_n 0, 1) := by decide +kernel
theorem dX12_leafOf_115 : decode cX12_leafOf 115 = .ok (.ldc2_w 133, 3) := by decide +kernel
theorem dX12_leafOf_118 : decode cX12_leafOf 118 = .ok (.invokevirtual 196, 3) := by decide +kernel
theorem dX12_leafOf_121 : decode cX12_leafOf 121 = .ok (.ifCond .eq 8, 3) := by decide +kernel
theorem dX12_leafOf_124 : decode cX12_leafOf 124 = .ok (.bipush 8, 2) := by decide +kernel
theorem dX12_leafOf_126 : decode cX12_leafOf 126 = .ok (.goto 4, 3) := by decide +kernel
theorem dX12_leafOf_129 : decode cX12_leafOf 129 = .ok (.iconst (-1), 1) := by decide +kernel
theorem dX12_leafOf_130 : decode cX12_leafOf 130 = .ok (.ireturn, 1) := by decide +kernel
theorem dX12_least_0 : decode cX12_least 0 = .ok (.aload_n 0, 1) := by decide +kernel
theorem dX12_least_1 : decode cX12_least 1 = .ok (.iconst 0, 1) := by decide +kernel
theorem dX12_least_2 : decode cX12_least 2 = .ok (.putfield 1, 3) := by decide +kernel
theorem dX12_least_5 : decode cX12_least 5 = .ok (.aload_n 0, 1) := by decide +kernel
theorem dX12_least_6 : decode cX12_least 6 = .ok (.iload_n 1, 1) := by decide +kernel
theorem dX12_least_7 : decode cX12_least 7 = .ok (.invokevirtual 236, 3) := by decide +kernel
theorem dX12_least_10 : decode cX12_least 10 = .ok (.ifCond .eq 11, 3) := by decide +kernel
theorem dX12_least_13 : decode cX12_least 13 = .ok (.aload_n 0, 1) := by decide +kernel
theorem dX12_least_14 : decode cX12_least 14 = .ok (.iload_n 1, 1) := by decide +kernel
theorem dX12_least_15 : decode cX12_least 15 = .ok (.invokevirtual 259, 3) := by decide +kernel
theorem dX12_least_18 : decode cX12_least 18 = .ok (.ifCond .ge 5, 3) := by decide +kernel
theorem dX12_least_21 : decode cX12_least 21 = .ok (.iconst (-1), 1) := by decide +kernel
theorem dX12_least_22 : decode cX12_least 22 = .ok (.ireturn, 1) := by decide +kernel
theorem dX12_least_23 : decode cX12_least 23 = .ok (.ldc_w 377, 3) := by decide +kernel
theorem dX12_least_26 : decode cX12_least 26 = .ok (.istore_n 2, 1) := by decide +kernel
theorem dX12_least_27 : decode cX12_least 27 = .ok (.iconst (-1), 1) := by decide +kernel
theorem dX12_least_28 : decode cX12_least 28 = .ok (.istore_n 3, 1) := by decide +kernel
theorem dX12_least_29 : decode cX12_least 29 = .ok (.iconst 0, 1) := by decide +kernel
theorem dX12_least_30 : decode cX12_least 30 = .ok (.istore 4, 2) := by decide +kernel
theorem dX12_least_32 : decode cX12_least 32 = .ok (.iload 4, 2) := by decide +kernel
theorem dX12_least_34 : decode cX12_least 34 = .ok (.aload_n 0, 1) := by decide +kernel
theorem dX12_least_35 : decode cX12_least 35 = .ok (.getfield 33, 3) := by decide +kernel
theorem dX12_least_38 : decode cX12_least 38 = .ok (.iconst 0, 1) := by decide +kernel
theorem dX12_least_39 : decode cX12_least 39 = .ok (.iaload, 1) := by decide +kernel
theorem dX12_least_40 : decode cX12_least 40 = .ok (.if_icmp .ge 33, 3) := by decide +kernel
theorem dX12_least_43 : decode cX12_least 43 = .ok (.aload_n 0, 1) := by decide +kernel
theorem dX12_least_44 : decode cX12_least 44 = .ok (.iload_n 1, 1) := by decide +kernel
theorem dX12_least_45 : decode cX12_least 45 = .ok (.iload 4, 2) := by decide +kernel
theorem dX12_least_47 : decode cX12_least 47 = .ok (.invokevirtual 378, 3) := by decide +kernel
theorem dX12_least_50 : decode cX12_least 50 = .ok (.istore 5, 2) := by decide +kernel
theorem dX12_least_52 : decode cX12_least 52 = .ok (.iload 5, 2) := by decide +kernel
theorem dX12_least_54 : decode cX12_least 54 = .ok (.iload_n 2, 1) := by decide +kernel
theorem dX12_least_55 : decode cX12_least 55 = .ok (.if_icmp .lt 6, 3) := by decide +kernel
theorem dX12_least_58 : decode cX12_least 58 = .ok (.goto 9, 3) := by decide +kernel
theorem dX12_least_61 : decode cX12_least 61 = .ok (.iload 5, 2) := by decide +kernel
theorem dX12_least_63 : decode cX12_least 63 = .ok (.istore_n 2, 1) := by decide +kernel
theorem dX12_least_64 : decode cX12_least 64 = .ok (.iload 4, 2) := by decide +kernel
theorem dX12_least_66 : decode cX12_least 66 = .ok (.istore_n 3, 1) := by decide +kernel
theorem dX12_least_67 : decode cX12_least 67 = .ok (.iinc 4 1, 3) := by decide +kernel
theorem dX12_least_70 : decode cX12_least 70 = .ok (.goto (-38), 3) := by decide +kernel
theorem dX12_least_73 : decode cX12_least 73 = .ok (.iload_n 3, 1) := by decide +kernel
theorem dX12_least_74 : decode cX12_least 74 = .ok (.ifCond .ge 5, 3) := by decide +kernel
theorem dX12_least_77 : decode cX12_least 77 = .ok (.iconst (-1), 1) := by decide +kernel
theorem dX12_least_78 : decode cX12_least 78 = .ok (.ireturn, 1) := by decide +kernel
theorem dX12_least_79 : decode cX12_least 79 = .ok (.aload_n 0, 1) := by decide +kernel
theorem dX12_least_80 : decode cX12_least 80 = .ok (.iconst 1, 1) := by decide +kernel
theorem dX12_least_81 : decode cX12_least 81 = .ok (.putfield 381, 3) := by decide +kernel
theorem dX12_least_84 : decode cX12_least 84 = .ok (.aload_n 0, 1) := by decide +kernel
theorem dX12_least_85 : decode cX12_least 85 = .ok (.iload_n 3, 1) := by decide +kernel
theorem dX12_least_86 : decode cX12_least 86 = .ok (.putfield 385, 3) := by decide +kernel
theorem dX12_least_89 : decode cX12_least 89 = .ok (.iload_n 2, 1) := by decide +kernel
theorem dX12_least_90 : decode cX12_least 90 = .ok (.ireturn, 1) := by decide +kernel
theorem dX12_leaves_0 : decode cX12_leaves 0 = .ok (.aload_n 0, 1) := by decide +kernel
theorem dX12_leaves_1 : decode cX12_leaves 1 = .ok (.iload_n 1, 1) := by decide +kernel
theorem dX12_leaves_2 : decode cX12_leaves 2 = .ok (.invokevirtual 259, 3) := by decide +kernel
theorem dX12_leaves_5 : decode cX12_leaves 5 = .ok (.istore_n 2, 1) := by decide +kernel
theorem dX12_leaves_6 : decode cX12_leaves 6 = .ok (.iload_n 2, 1) := by decide +kernel
theorem dX12_leaves_7 : decode cX12_leaves 7 = .ok (.ifCond .ge 4, 3) := by decide +kernel
theorem dX12_leaves_10 : decode cX12_leaves 10 = .ok (.return_, 1) := by decide +kernel
theorem dX12_leaves_11 : decode cX12_leaves 11 = .ok (.aload_n 0, 1) := by decide +kernel
theorem dX12_leaves_12 : decode cX12_leaves 12 = .ok (.getfield 33, 3) := by decide +kernel
theorem dX12_leaves_15 : decode cX12_leaves 15 = .ok (.sipush 151, 3) := by decide +kernel
theorem dX12_leaves_18 : decode cX12_leaves 18 = .ok (.dup2, 1) := by decide +kernel
theorem dX12_leaves_19 : decode cX12_leaves 19 = .ok (.iaload, 1) := by decide +kernel
theorem dX12_leaves_20 : decode cX12_leaves 20 = .ok (.iconst 1, 1) := by decide +kernel
theorem dX12_leaves_21 : decode cX12_leaves 21 = .ok (.isub, 1) := by decide +kernel
theorem dX12_leaves_22 : decode cX12_leaves 22 = .ok (.iastore, 1) := by decide +kernel
theorem dX12_leaves_23 : decode cX12_leaves 23 = .ok (.iload_n 2, 1) := by decide +kernel
theorem dX12_leaves_24 : decode cX12_leaves 24 = .ok (.istore_n 3, 1) := by decide +kernel
theorem dX12_leaves_25 : decode cX12_leaves 25 = .ok (.iload_n 3, 1) := by decide +kernel
theorem dX12_leaves_26 : decode cX12_leaves 26 = .ok (.aload_n 0, 1) := by decide +kernel
theorem dX12_leaves_27 : decode cX12_leaves 27 = .ok (.getfield 33, 3) := by decide +kernel
theorem dX12_leaves_30 : decode cX12_leaves 30 = .ok (.sipush 151, 3) := by decide +kernel
theorem dX12_leaves_33 : decode cX12_leaves 33 = .ok (.iaload, 1) := by decide +kernel
theorem dX12_leaves_34 : decode cX12_leaves 34 = .ok (.if_icmp .ge 31, 3) := by decide +kernel
theorem dX12_leaves_37 : decode cX12_leaves 37 = .ok (.aload_n 0, 1) := by decide +kernel
theorem dX12_leaves_38 : decode cX12_leaves 38 = .ok (.getfield 33, 3) := by decide +kernel
theorem dX12_leaves_41 : decode cX12_leaves 41 = .ok (.sipush 152, 3) := by decide +kernel
theorem dX12_leaves_44 : decode cX12_leaves 44 = .ok (.iload_n 3, 1) := by decide +kernel
theorem dX12_leaves_45 : decode cX12_leaves 45 = .ok (.iadd, 1) := by decide +kernel
theorem dX12_leaves_46 : decode cX12_leaves 46 = .ok (.aload_n 0, 1) := by decide +kernel
theorem dX12_leaves_47 : decode cX12_leaves 47 = .ok (.getfield 33, 3) := by decide +kernel
theorem dX12_leaves_50 : decode cX12_leaves 50 = .ok (.sipush 152, 3) := by decide +kernel
theorem dX12_leaves_53 : decode cX12_leaves 53 = .ok (.iload_n 3, 1) := by decide +kernel
theorem dX12_leaves_54 : decode cX12_leaves 54 = .ok (.iadd, 1) := by decide +kernel
theorem dX12_leaves_55 : decode cX12_leaves 55 = .ok (.iconst 1, 1) := by decide +kernel
theorem dX12_leaves_56 : decode cX12_leaves 56 = .ok (.iadd, 1) := by decide +kernel
theorem dX12_leaves_57 : decode cX12_leaves 57 = .ok (.iaload, 1) := by decide +kernel
theorem dX12_leaves_58 : decode cX12_leaves 58 = .ok (.iastore, 1) := by decide +kernel
theorem dX12_leaves_59 : decode cX12_leaves 59 = .ok (.iinc 3 1, 3) := by decide +kernel
theorem dX12_leaves_62 : decode cX12_leaves 62 = .ok (.goto (-37), 3) := by decide +kernel
theorem dX12_leaves_65 : decode cX12_leaves 65 = .ok (.aload_n 0, 1) := by decide +kernel
theorem dX12_leaves_66 : decode cX12_leaves 66 = .ok (.getfield 33, 3) := by decide +kernel
theorem dX12_leaves_69 : decode cX12_leaves 69 = .ok (.sipush 152, 3) := by decide +kernel
theorem dX12_leaves_72 : decode cX12_leaves 72 = .ok (.aload_n 0, 1) := by decide +kernel
theorem dX12_leaves_73 : decode cX12_leaves 73 = .ok (.getfield 33, 3) := by decide +kernel
theorem dX12_leaves_76 : decode cX12_leaves 76 = .ok (.sipush 151, 3) := by decide +kernel
theorem dX12_leaves_79 : decode cX12_leaves 79 = .ok (.iaload, 1) := by decide +kernel
theorem dX12_leaves_80 : decode cX12_leaves 80 = .ok (.iadd, 1) := by decide +kernel
theorem dX12_leaves_81 : decode cX12_leaves 81 = .ok (.iconst 0, 1) := by decide +kernel
theorem dX12_leaves_82 : decode cX12_leaves 82 = .ok (.iastore, 1) := by decide +kernel
theorem dX12_leaves_83 : decode cX12_leaves 83 = .ok (.return_, 1) := by decide +kernel
theorem dX12_ledger_0 : decode cX12_ledger 0 = .ok (.aload_n 0, 1) := by decide +kernel
theorem dX12_ledger_1 : decode cX12_ledger 1 = .ok (.iconst 0, 1) := by decide +kernel
theorem dX12_ledger_2 : decode cX12_ledger 2 = .ok (.putfield 1, 3) := by decide +kernel
theorem dX12_ledger_5 : decode cX12_ledger 5 = .ok (.aload_n 0, 1) := by decide +kernel
theorem dX12_ledger_6 : decode cX12_ledger 6 = .ok (.sipush 940, 3) := by decide +kernel
theorem dX12_ledger_9 : decode cX12_ledger 9 = .ok (.invokevirtual 218, 3) := by decide +kernel
theorem dX12_ledger_12 : decode cX12_ledger 12 = .ok (.aload_n 0, 1) := by decide +kernel
theorem dX12_ledger_13 : decode cX12_ledger 13 = .ok (.getfield 18, 3) := by decide +kernel
theorem dX12_ledger_16 : decode cX12_ledger 16 = .ok (.iconst 1, 1) := by decide +kernel
theorem dX12_ledger_17 : decode cX12_ledger 17 = .ok (.aload_n 0, 1) := by decide +kernel
theorem dX12_ledger_18 : decode cX12_ledger 18 = .ok (.getfield 33, 3) := by decide +kernel
theorem dX12_ledger_21 : decode cX12_ledger 21 = .ok (.sipush 146, 3) := by decide +kernel
theorem dX12_ledger_24 : decode cX12_ledger 24 = .ok (.iaload, 1) := by decide +kernel
theorem dX12_ledger_25 : decode cX12_ledger 25 = .ok (.invokestatic 177, 3) := by decide +kernel
theorem dX12_ledger_28 : decode cX12_ledger 28 = .ok (.ifCond .ne 5, 3) := by decide +kernel
theorem dX12_ledger_31 : decode cX12_ledger 31 = .ok (.iconst (-1), 1) := by decide +kernel
theorem dX12_ledger_32 : decode cX12_ledger 32 = .ok (.ireturn, 1) := by decide +kernel
theorem dX12_ledger_33 : decode cX12_ledger 33 = .ok (.iconst 0, 1) := by decide +kernel
theorem dX12_ledger_34 : decode cX12_ledger 34 = .ok (.istore_n 1, 1) := by decide +kernel
theorem dX12_ledger_35 : decode cX12_ledger 35 = .ok (.iload_n 1, 1) := by decide +kernel
theorem dX12_ledger_36 : decode cX12_ledger 36 = .ok (.aload_n 0, 1) := by decide +kernel
theorem dX12_ledger_37 : decode cX12_ledger 37 = .ok (.getfield 18, 3) := by decide +kernel
theorem dX12_ledger_40 : decode cX12_ledger 40 = .ok (.if_icmp .ge 36, 3) := by decide +kernel
theorem dX12_ledger_43 : decode cX12_ledger 43 = .ok (.aload_n 0, 1) := by decide +kernel
theorem dX12_ledger_44 : decode cX12_ledger 44 = .ok (.iload_n 1, 1) := by decide +kernel
theorem dX12_ledger_45 : decode cX12_ledger 45 = .ok (.invokevirtual 362, 3) := by decide +kernel
theorem dX12_ledger_48 : decode cX12_ledger 48 = .ok (.sipush 255, 3) := by decide +kernel
theorem dX12_ledger_51 : decode cX12_ledger 51 = .ok (.if_icmp .eq 19, 3) := by decide +kernel
theorem dX12_ledger_54 : decode cX12_ledger 54 = .ok (.aload_n 0, 1) := by decide +kernel
theorem dX12_ledger_55 : decode cX12_ledger 55 = .ok (.iload_n 1, 1) := by decide +kernel
theorem dX12_ledger_56 : decode cX12_ledger 56 = .ok (.invokevirtual 362, 3) := by decide +kernel
