theorem dX12_looksAt_39 : decode cX12_looksAt 39 = .ok (.goto 4, 3) := by decide +kernel
theorem dX12_looksAt_42 : decode cX12_looksAt 42 = .ok (.iconst 0, 1) := by decide +kernel
theorem dX12_looksAt_43 : decode cX12_looksAt 43 = .ok (.ireturn, 1) := by decide +kernel
theorem dX12_lot_0 : decode cX12_lot 0 = .ok (.aload_n 0, 1) := by decide +kernel
theorem dX12_lot_1 : decode cX12_lot 1 = .ok (.iconst 0, 1) := by decide +kernel
theorem dX12_lot_2 : decode cX12_lot 2 = .ok (.putfield 1, 3) := by decide +kernel
theorem dX12_lot_5 : decode cX12_lot 5 = .ok (.aload_n 0, 1) := by decide +kernel
theorem dX12_lot_6 : decode cX12_lot 6 = .ok (.iload_n 1, 1) := by decide +kernel
theorem dX12_lot_7 : decode cX12_lot 7 = .ok (.invokevirtual 246, 3) := by decide +kernel
theorem dX12_lot_10 : decode cX12_lot 10 = .ok (.ifCond .ne 5, 3) := by decide +kernel
theorem dX12_lot_13 : decode cX12_lot 13 = .ok (.iconst (-1), 1) := by decide +kernel
theorem dX12_lot_14 : decode cX12_lot 14 = .ok (.ireturn, 1) := by decide +kernel
theorem dX12_lot_15 : decode cX12_lot 15 = .ok (.aload_n 0, 1) := by decide +kernel
theorem dX12_lot_16 : decode cX12_lot 16 = .ok (.getfield 33, 3) := by decide +kernel
theorem dX12_lot_19 : decode cX12_lot 19 = .ok (.sipush 148, 3) := by decide +kernel
theorem dX12_lot_22 : decode cX12_lot 22 = .ok (.iaload, 1) := by decide +kernel
theorem dX12_lot_23 : decode cX12_lot 23 = .ok (.iload_n 1, 1) := by decide +kernel
theorem dX12_lot_24 : decode cX12_lot 24 = .ok (.invokestatic 215, 3) := by decide +kernel
theorem dX12_lot_27 : decode cX12_lot 27 = .ok (.ifCond .eq 11, 3) := by decide +kernel
theorem dX12_lot_30 : decode cX12_lot 30 = .ok (.aload_n 0, 1) := by decide +kernel
theorem dX12_lot_31 : decode cX12_lot 31 = .ok (.iload_n 1, 1) := by decide +kernel
theorem dX12_lot_32 : decode cX12_lot 32 = .ok (.invokevirtual 243, 3) := by decide +kernel
theorem dX12_lot_35 : decode cX12_lot 35 = .ok (.ifCond .lt 6, 3) := by decide +kernel
theorem dX12_lot_38 : decode cX12_lot 38 = .ok (.bipush (-2), 2) := by decide +kernel
theorem dX12_lot_40 : decode cX12_lot 40 = .ok (.ireturn, 1) := by decide +kernel
theorem dX12_lot_41 : decode cX12_lot 41 = .ok (.aload_n 0, 1) := by decide +kernel
theorem dX12_lot_42 : decode cX12_lot 42 = .ok (.getfield 33, 3) := by decide +kernel
theorem dX12_lot_45 : decode cX12_lot 45 = .ok (.sipush 151, 3) := by decide +kernel
theorem dX12_lot_48 : decode cX12_lot 48 = .ok (.iaload, 1) := by decide +kernel
theorem dX12_lot_49 : decode cX12_lot 49 = .ok (.ifCond .ne 6, 3) := by decide +kernel
theorem dX12_lot_52 : decode cX12_lot 52 = .ok (.bipush (-3), 2) := by decide +kernel
theorem dX12_lot_54 : decode cX12_lot 54 = .ok (.ireturn, 1) := by decide +kernel
theorem dX12_lot_55 : decode cX12_lot 55 = .ok (.aload_n 0, 1) := by decide +kernel
theorem dX12_lot_56 : decode cX12_lot 56 = .ok (.invokevirtual 280, 3) := by decide +kernel
theorem dX12_lot_59 : decode cX12_lot 59 = .ok (.aload_n 0, 1) := by decide +kernel
theorem dX12_lot_60 : decode cX12_lot 60 = .ok (.iload_n 2, 1) := by decide +kernel
theorem dX12_lot_61 : decode cX12_lot 61 = .ok (.putfield 317, 3) := by decide +kernel
theorem dX12_lot_64 : decode cX12_lot 64 = .ok (.aload_n 0, 1) := by decide +kernel
theorem dX12_lot_65 : decode cX12_lot 65 = .ok (.getfield 33, 3) := by decide +kernel
theorem dX12_lot_68 : decode cX12_lot 68 = .ok (.sipush 152, 3) := by decide +kernel
theorem dX12_lot_71 : decode cX12_lot 71 = .ok (.aload_n 0, 1) := by decide +kernel
theorem dX12_lot_72 : decode cX12_lot 72 = .ok (.aload_n 0, 1) := by decide +kernel
theorem dX12_lot_73 : decode cX12_lot 73 = .ok (.getfield 33, 3) := by decide +kernel
theorem dX12_lot_76 : decode cX12_lot 76 = .ok (.sipush 151, 3) := by decide +kernel
theorem dX12_lot_79 : decode cX12_lot 79 = .ok (.iaload, 1) := by decide +kernel
theorem dX12_lot_80 : decode cX12_lot 80 = .ok (.invokevirtual 320, 3) := by decide +kernel
theorem dX12_lot_83 : decode cX12_lot 83 = .ok (.iadd, 1) := by decide +kernel
theorem dX12_lot_84 : decode cX12_lot 84 = .ok (.iaload, 1) := by decide +kernel
theorem dX12_lot_85 : decode cX12_lot 85 = .ok (.istore_n 3, 1) := by decide +kernel
theorem dX12_lot_86 : decode cX12_lot 86 = .ok (.aload_n 0, 1) := by decide +kernel
theorem dX12_lot_87 : decode cX12_lot 87 = .ok (.getfield 33, 3) := by decide +kernel
theorem dX12_lot_90 : decode cX12_lot 90 = .ok (.sipush 148, 3) := by decide +kernel
theorem dX12_lot_93 : decode cX12_lot 93 = .ok (.dup2, 1) := by decide +kernel
theorem dX12_lot_94 : decode cX12_lot 94 = .ok (.iaload, 1) := by decide +kernel
theorem dX12_lot_95 : decode cX12_lot 95 = .ok (.iconst 1, 1) := by decide +kernel
theorem dX12_lot_96 : decode cX12_lot 96 = .ok (.iload_n 1, 1) := by decide +kernel
theorem dX12_lot_97 : decode cX12_lot 97 = .ok (.ishl, 1) := by decide +kernel
theorem dX12_lot_98 : decode cX12_lot 98 = .ok (.iconst (-1), 1) := by decide +kernel
theorem dX12_lot_99 : decode cX12_lot 99 = .ok (.ixor, 1) := by decide +kernel
theorem dX12_lot_100 : decode cX12_lot 100 = .ok (.iand, 1) := by decide +kernel
theorem dX12_lot_101 : decode cX12_lot 101 = .ok (.iastore, 1) := by decide +kernel
theorem dX12_lot_102 : decode cX12_lot 102 = .ok (.aload_n 0, 1) := by decide +kernel
theorem dX12_lot_103 : decode cX12_lot 103 = .ok (.getfield 33, 3) := by decide +kernel
theorem dX12_lot_106 : decode cX12_lot 106 = .ok (.sipush 161, 3) := by decide +kernel
theorem dX12_lot_109 : decode cX12_lot 109 = .ok (.iload_n 3, 1) := by decide +kernel
theorem dX12_lot_110 : decode cX12_lot 110 = .ok (.iadd, 1) := by decide +kernel
theorem dX12_lot_111 : decode cX12_lot 111 = .ok (.iload_n 1, 1) := by decide +kernel
theorem dX12_lot_112 : decode cX12_lot 112 = .ok (.iconst 1, 1) := by decide +kernel
theorem dX12_lot_113 : decode cX12_lot 113 = .ok (.iadd, 1) := by decide +kernel
theorem dX12_lot_114 : decode cX12_lot 114 = .ok (.iastore, 1) := by decide +kernel
theorem dX12_lot_115 : decode cX12_lot 115 = .ok (.aload_n 0, 1) := by decide +kernel
theorem dX12_lot_116 : decode cX12_lot 116 = .ok (.iload_n 3, 1) := by decide +kernel
theorem dX12_lot_117 : decode cX12_lot 117 = .ok (.invokevirtual 268, 3) := by decide +kernel
theorem dX12_lot_120 : decode cX12_lot 120 = .ok (.aload_n 0, 1) := by decide +kernel
theorem dX12_lot_121 : decode cX12_lot 121 = .ok (.iload_n 3, 1) := by decide +kernel
theorem dX12_lot_122 : decode cX12_lot 122 = .ok (.invokevirtual 271, 3) := by decide +kernel
theorem dX12_lot_125 : decode cX12_lot 125 = .ok (.iload_n 3, 1) := by decide +kernel
theorem dX12_lot_126 : decode cX12_lot 126 = .ok (.ireturn, 1) := by decide +kernel
theorem dX12_monday_0 : decode cX12_monday 0 = .ok (.iconst 0, 1) := by decide +kernel
theorem dX12_monday_1 : decode cX12_monday 1 = .ok (.istore_n 1, 1) := by decide +kernel
theorem dX12_monday_2 : decode cX12_monday 2 = .ok (.iload_n 1, 1) := by decide +kernel
theorem dX12_monday_3 : decode cX12_monday 3 = .ok (.bipush 9, 2) := by decide +kernel
theorem dX12_monday_5 : decode cX12_monday 5 = .ok (.if_icmp .ge 42, 3) := by decide +kernel
theorem dX12_monday_8 : decode cX12_monday 8 = .ok (.aload_n 0, 1) := by decide +kernel
theorem dX12_monday_9 : decode cX12_monday 9 = .ok (.getfield 33, 3) := by decide +kernel
theorem dX12_monday_12 : decode cX12_monday 12 = .ok (.sipush 206, 3) := by decide +kernel
theorem dX12_monday_15 : decode cX12_monday 15 = .ok (.sipush 200, 3) := by decide +kernel
theorem dX12_monday_18 : decode cX12_monday 18 = .ok (.iload_n 1, 1) := by decide +kernel
theorem dX12_monday_19 : decode cX12_monday 19 = .ok (.imul, 1) := by decide +kernel
theorem dX12_monday_20 : decode cX12_monday 20 = .ok (.iadd, 1) := by decide +kernel
theorem dX12_monday_21 : decode cX12_monday 21 = .ok (.aload_n 0, 1) := by decide +kernel
theorem dX12_monday_22 : decode cX12_monday 22 = .ok (.getfield 33, 3) := by decide +kernel
theorem dX12_monday_25 : decode cX12_monday 25 = .ok (.sipush 146, 3) := by decide +kernel
theorem dX12_monday_28 : decode cX12_monday 28 = .ok (.iaload, 1) := by decide +kernel
theorem dX12_monday_29 : decode cX12_monday 29 = .ok (.iadd, 1) := by decide +kernel
theorem dX12_monday_30 : decode cX12_monday 30 = .ok (.aload_n 0, 1) := by decide +kernel
theorem dX12_monday_31 : decode cX12_monday 31 = .ok (.getfield 33, 3) := by decide +kernel
theorem dX12_monday_34 : decode cX12_monday 34 = .ok (.sipush 161, 3) := by decide +kernel
theorem dX12_monday_37 : decode cX12_monday 37 = .ok (.iload_n 1, 1) := by decide +kernel
theorem dX12_monday_38 : decode cX12_monday 38 = .ok (.iadd, 1) := by decide +kernel
theorem dX12_monday_39 : decode cX12_monday 39 = .ok (.iaload, 1) := by decide +kernel
theorem dX12_monday_40 : decode cX12_monday 40 = .ok (.iastore, 1) := by decide +kernel
theorem dX12_monday_41 : decode cX12_monday 41 = .ok (.iinc 1 1, 3) := by decide +kernel
theorem dX12_monday_44 : decode cX12_monday 44 = .ok (.goto (-42), 3) := by decide +kernel
theorem dX12_monday_47 : decode cX12_monday 47 = .ok (.iconst 0, 1) := by decide +kernel
theorem dX12_monday_48 : decode cX12_monday 48 = .ok (.istore_n 1, 1) := by decide +kernel
theorem dX12_monday_49 : decode cX12_monday 49 = .ok (.iload_n 1, 1) := by decide +kernel
theorem dX12_monday_50 : decode cX12_monday 50 = .ok (.aload_n 0, 1) := by decide +kernel
theorem dX12_monday_51 : decode cX12_monday 51 = .ok (.getfield 33, 3) := by decide +kernel
theorem dX12_monday_54 : decode cX12_monday 54 = .ok (.iconst 0, 1) := by decide +kernel
theorem dX12_monday_55 : decode cX12_monday 55 = .ok (.iaload, 1) := by decide +kernel
theorem dX12_monday_56 : decode cX12_monday 56 = .ok (.if_icmp .ge 109, 3) := by decide +kernel
theorem dX12_monday_59 : decode cX12_monday 59 = .ok (.aload_n 0, 1) := by decide +kernel
theorem dX12_monday_60 : decode cX12_monday 60 = .ok (.iload_n 1, 1) := by decide +kernel
theorem dX12_monday_61 : decode cX12_monday 61 = .ok (.invokevirtual 243, 3) := by decide +kernel
theorem dX12_monday_64 : decode cX12_monday 64 = .ok (.istore_n 2, 1) := by decide +kernel
theorem dX12_monday_65 : decode cX12_monday 65 = .ok (.iload_n 2, 1) := by decide +kernel
theorem dX12_monday_66 : decode cX12_monday 66 = .ok (.ifCond .lt 93, 3) := by decide +kernel
theorem dX12_monday_69 : decode cX12_monday 69 = .ok (.aload_n 0, 1) := by decide +kernel
theorem dX12_monday_70 : decode cX12_monday 70 = .ok (.getfield 33, 3) := by decide +kernel
theorem dX12_monday_73 : decode cX12_monday 73 = .ok (.bipush 20, 2) := by decide +kernel
theorem dX12_monday_75 : decode cX12_monday 75 = .ok (.iload_n 1, 1) := by decide +kernel
theorem dX12_monday_76 : decode cX12_monday 76 = .ok (.iadd, 1) := by decide +kernel
theorem dX12_monday_77 : decode cX12_monday 77 = .ok (.iaload, 1) := by decide +kernel
theorem dX12_monday_78 : decode cX12_monday 78 = .ok (.ifCond .eq 81, 3) := by decide +kernel
theorem dX12_monday_81 : decode cX12_monday 81 = .ok (.aload_n 0, 1) := by decide +kernel
theorem dX12_monday_82 : decode cX12_monday 82 = .ok (.getfield 33, 3) := by decide +kernel
theorem dX12_monday_85 : decode cX12_monday 85 = .ok (.sipush 146, 3) := by decide +kernel
theorem dX12_monday_88 : decode cX12_monday 88 = .ok (.iaload, 1) := by decide +kernel
theorem dX12_monday_89 : decode cX12_monday 89 = .ok (.aload_n 0, 1) := by decide +kernel
theorem dX12_monday_90 : decode cX12_monday 90 = .ok (.getfield 33, 3) := by decide +kernel
theorem dX12_monday_93 : decode cX12_monday 93 = .ok (.bipush 20, 2) := by decide +kernel
theorem dX12_monday_95 : decode cX12_monday 95 = .ok (.iload_n 1, 1) := by decide +kernel
theorem dX12_monday_96 : decode cX12_monday 96 = .ok (.iadd, 1) := by decide +kernel
theorem dX12_monday_97 : decode cX12_monday 97 = .ok (.iaload, 1) := by decide +kernel
theorem dX12_monday_98 : decode cX12_monday 98 = .ok (.irem, 1) := by decide +kernel
theorem dX12_monday_99 : decode cX12_monday 99 = .ok (.ifCond .eq 6, 3) := by decide +kernel
theorem dX12_monday_102 : decode cX12_monday 102 = .ok (.goto 57, 3) := by decide +kernel
theorem dX12_monday_105 : decode cX12_monday 105 = .ok (.aload_n 0, 1) := by decide +kernel
theorem dX12_monday_106 : decode cX12_monday 106 = .ok (.getfield 33, 3) := by decide +kernel
theorem dX12_monday_109 : decode cX12_monday 109 = .ok (.sipush 170, 3) := by decide +kernel
theorem dX12_monday_112 : decode cX12_monday 112 = .ok (.iload_n 2, 1) := by decide +kernel
theorem dX12_monday_113 : decode cX12_monday 113 = .ok (.iadd, 1) := by decide +kernel
theorem dX12_monday_114 : decode cX12_monday 114 = .ok (.aload_n 0, 1) := by decide +kernel
theorem dX12_monday_115 : decode cX12_monday 115 = .ok (.getfield 33, 3) := by decide +kernel
theorem dX12_monday_118 : decode cX12_monday 118 = .ok (.sipush 170, 3) := by decide +kernel
theorem dX12_monday_121 : decode cX12_monday 121 = .ok (.iload_n 2, 1) := by decide +kernel
theorem dX12_monday_122 : decode cX12_monday 122 = .ok (.iadd, 1) := by decide +kernel
theorem dX12_monday_123 : decode cX12_monday 123 = .ok (.iaload, 1) := by decide +kernel
theorem dX12_monday_124 : decode cX12_monday 124 = .ok (.iconst 2, 1) := by decide +kernel
theorem dX12_monday_125 : decode cX12_monday 125 = .ok (.if_icmp .ge 7, 3) := by decide +kernel
theorem dX12_monday_128 : decode cX12_monday 128 = .ok (.iconst 0, 1) := by decide +kernel
theorem dX12_monday_129 : decode cX12_monday 129 = .ok (.goto 15, 3) := by decide +kernel
theorem dX12_monday_132 : decode cX12_monday 132 = .ok (.aload_n 0, 1) := by decide +kernel
theorem dX12_monday_133 : decode cX12_monday 133 = .ok (.getfield 33, 3) := by decide +kernel
theorem dX12_monday_136 : decode cX12_monday 136 = .ok (.sipush 170, 3) := by decide +kernel
theorem dX12_monday_139 : decode cX12_monday 139 = .ok (.iload_n 2, 1) := by decide +kernel
theorem dX12_monday_140 : decode cX12_monday 140 = .ok (.iadd, 1) := by decide +kernel
theorem dX12_monday_141 : decode cX12_monday 141 = .ok (.iaload, 1) := by decide +kernel
theorem dX12_monday_142 : decode cX12_monday 142 = .ok (.iconst 2, 1) := by decide +kernel
theorem dX12_monday_143 : decode cX12_monday 143 = .ok (.isub, 1) := by decide +kernel
theorem dX12_monday_144 : decode cX12_monday 144 = .ok (.iastore, 1) := by decide +kernel
theorem dX12_monday_145 : decode cX12_monday 145 = .ok (.aload_n 0, 1) := by decide +kernel
theorem dX12_monday_146 : decode cX12_monday 146 = .ok (.getfield 33, 3) := by decide +kernel
theorem dX12_monday_149 : decode cX12_monday 149 = .ok (.sipush 179, 3) := by decide +kernel
theorem dX12_monday_152 : decode cX12_monday 152 = .ok (.iload_n 2, 1) := by decide +kernel
theorem dX12_monday_153 : decode cX12_monday 153 = .ok (.iadd, 1) := by decide +kernel
theorem dX12_monday_154 : decode cX12_monday 154 = .ok (.dup2, 1) := by decide +kernel
theorem dX12_monday_155 : decode cX12_monday 155 = .ok (.iaload, 1) := by decide +kernel
theorem dX12_monday_156 : decode cX12_monday 156 = .ok (.iconst 1, 1) := by decide +kernel
theorem dX12_monday_157 : decode cX12_monday 157 = .ok (.iadd, 1) := by decide +kernel
theorem dX12_monday_158 : decode cX12_monday 158 = .ok (.iastore, 1) := by decide +kernel
theorem dX12_monday_159 : decode cX12_monday 159 = .ok (.iinc 1 1, 3) := by decide +kernel
theorem dX12_monday_162 : decode cX12_monday 162 = .ok (.goto (-113), 3) := by decide +kernel
theorem dX12_monday_165 : decode cX12_monday 165 = .ok (.aload_n 0, 1) := by decide +kernel
theorem dX12_monday_166 : decode cX12_monday 166 = .ok (.getfield 33, 3) := by decide +kernel
theorem dX12_monday_169 : decode cX12_monday 169 = .ok (.sipush 146, 3) := by decide +kernel
theorem dX12_monday_172 : decode cX12_monday 172 = .ok (.dup2, 1) := by decide +kernel
theorem dX12_monday_173 : decode cX12_monday 173 = .ok (.iaload, 1) := by decide +kernel
theorem dX12_monday_174 : decode cX12_monday 174 = .ok (.iconst 1, 1) := by decide +kernel
theorem dX12_monday_175 : decode cX12_monday 175 = .ok (.iadd, 1) := by decide +kernel
theorem dX12_monday_176 : decode cX12_monday 176 = .ok (.iastore, 1) := by decide +kernel
theorem dX12_monday_177 : decode cX12_monday 177 = .ok (.aload_n 0, 1) := by decide +kernel
theorem dX12_monday_178 : decode cX12_monday 178 = .ok (.getfield 33, 3) := by decide +kernel
theorem dX12_monday_181 : decode cX12_monday 181 = .ok (.sipush 149, 3) := by decide +kernel
theorem dX12_monday_184 : decode cX12_monday 184 = .ok (.iconst 0, 1) := by decide +kernel
theorem dX12_monday_185 : decode cX12_monday 185 = .ok (.iastore, 1) := by decide +kernel
theorem dX12_monday_186 : decode cX12_monday 186 = .ok (.return_, 1) := by decide +kernel
theorem dX12_mondays_0 : decode cX12_mondays 0 = .ok (.aload_n 0, 1) := by decide +kernel
theorem dX12_mondays_1 : decode cX12_mondays 1 = .ok (.iconst 0, 1) := by decide +kernel
theorem dX12_mondays_2 : decode cX12_mondays 2 = .ok (.putfield 1, 3) := by decide +kernel
theorem dX12_mondays_5 : decode cX12_mondays 5 = .ok (.iload_n 1, 1) := by decide +kernel
theorem dX12_mondays_6 : decode cX12_mondays 6 = .ok (.iconst 1, 1) := by decide +kernel
theorem dX12_mondays_7 : decode cX12_mondays 7 = .ok (.bipush 60, 2) := by decide +kernel
theorem dX12_mondays_9 : decode cX12_mondays 9 = .ok (.invokestatic 177, 3) := by decide +kernel
theorem dX12_mondays_12 : decode cX12_mondays 12 = .ok (.ifCond .ne 5, 3) := by decide +kernel
theorem dX12_mondays_15 : decode cX12_mondays 15 = .ok (.iconst (-1), 1) := by decide +kernel
theorem dX12_mondays_16 : decode cX12_mondays 16 = .ok (.ireturn, 1) := by decide +kernel
theorem dX12_mondays_17 : decode cX12_mondays 17 = .ok (.aload_n 0, 1) := by decide +kernel
theorem dX12_mondays_18 : decode cX12_mondays 18 = .ok (.getfield 33, 3) := by decide +kernel
theorem dX12_mondays_21 : decode cX12_mondays 21 = .ok (.sipush 146, 3) := by decide +kernel
theorem dX12_mondays_24 : decode cX12_mondays 24 = .ok (.iaload, 1) := by decide +kernel
theorem dX12_mondays_25 : decode cX12_mondays 25 = .ok (.sipush 200, 3) := by decide +kernel
theorem dX12_mondays_28 : decode cX12_mondays 28 = .ok (.if_icmp .ne 5, 3) := by decide +kernel
theorem dX12_mondays_31 : decode cX12_mondays 31 = .ok (.iconst 0, 1) := by decide +kernel
theorem dX12_mondays_32 : decode cX12_mondays 32 = .ok (.ireturn, 1) := by decide +kernel
theorem dX12_mondays_33 : decode cX12_mondays 33 = .ok (.aload_n 0, 1) := by decide +kernel
theorem dX12_mondays_34 : decode cX12_mondays 34 = .ok (.invokevirtual 280, 3) := by decide +kernel
theorem dX12_mondays_37 : decode cX12_mondays 37 = .ok (.aload_n 0, 1) := by decide +kernel
theorem dX12_mondays_38 : decode cX12_mondays 38 = .ok (.iload_n 1, 1) := by decide +kernel
theorem dX12_mondays_39 : decode cX12_mondays 39 = .ok (.invokevirtual 326, 3) := by decide +kernel
theorem dX12_mondays_42 : decode cX12_mondays 42 = .ok (.ireturn, 1) := by decide +kernel
theorem dX12_must_0 : decode cX12_must 0 = .ok (.aload_n 0, 1) := by decide +kernel
theorem dX12_must_1 : decode cX12_must 1 = .ok (.iconst 0, 1) := by decide +kernel
theorem dX12_must_2 : decode cX12_must 2 = .ok (.putfield 1, 3) := by decide +kernel
theorem dX12_must_5 : decode cX12_must 5 = .ok (.iload_n 1, 1) := by decide +kernel
theorem dX12_must_6 : decode cX12_must 6 = .ok (.iconst 0, 1) := by decide +kernel
theorem dX12_must_7 : decode cX12_must 7 = .ok (.sipush 199, 3) := by decide +kernel
theorem dX12_must_10 : decode cX12_must 10 = .ok (.invokestatic 177, 3) := by decide +kernel
theorem dX12_must_13 : decode cX12_must 13 = .ok (.ifCond .ne 5, 3) := by decide +kernel
theorem dX12_must_16 : decode cX12_must 16 = .ok (.iconst (-1), 1) := by decide +kernel
theorem dX12_must_17 : decode cX12_must 17 = .ok (.ireturn, 1) := by decide +kernel
theorem dX12_must_18 : decode cX12_must 18 = .ok (.iconst 0, 1) := by decide +kernel
theorem dX12_must_19 : decode cX12_must 19 = .ok (.istore_n 2, 1) := by decide +kernel
theorem dX12_must_20 : decode cX12_must 20 = .ok (.iconst 0, 1) := by decide +kernel
theorem dX12_must_21 : decode cX12_must 21 = .ok (.istore_n 3, 1) := by decide +kernel
theorem dX12_must_22 : decode cX12_must 22 = .ok (.iload_n 3, 1) := by decide +kernel
theorem dX12_must_23 : decode cX12_must 23 = .ok (.aload_n 0, 1) := by decide +kernel
theorem dX12_must_24 : decode cX12_must 24 = .ok (.getfield 33, 3) := by decide +kernel
theorem dX12_must_27 : decode cX12_must 27 = .ok (.iconst 0, 1) := by decide +kernel
theorem dX12_must_28 : decode cX12_must 28 = .ok (.iaload, 1) := by decide +kernel
theorem dX12_must_29 : decode cX12_must 29 = .ok (.if_icmp .ge 62, 3) := by decide +kernel
theorem dX12_must_32 : decode cX12_must 32 = .ok (.aload_n 0, 1) := by decide +kernel
theorem dX12_must_33 : decode cX12_must 33 = .ok (.iload_n 3, 1) := by decide +kernel
theorem dX12_must_34 : decode cX12_must 34 = .ok (.invokevirtual 243, 3) := by decide +kernel
theorem dX12_must_37 : decode cX12_must 37 = .ok (.istore 4, 2) := by decide +kernel
theorem dX12_must_39 : decode cX12_must 39 = .ok (.iload_n 2, 1) := by decide +kernel
theorem dX12_must_40 : decode cX12_must 40 = .ok (.iload 4, 2) := by decide +kernel
theorem dX12_must_42 : decode cX12_must 42 = .ok (.ifCond .lt 34, 3) := by decide +kernel
theorem dX12_must_45 : decode cX12_must 45 = .ok (.aload_n 0, 1) := by decide +kernel
theorem dX12_must_46 : decode cX12_must 46 = .ok (.getfield 33, 3) := by decide +kernel
theorem dX12_must_49 : decode cX12_must 49 = .ok (.sipush 137, 3) := by decide +kernel
theorem dX12_must_52 : decode cX12_must 52 = .ok (.iload 4, 2) := by decide +kernel
theorem dX12_must_54 : decode cX12_must 54 = .ok (.iadd, 1) := by decide +kernel
theorem dX12_must_55 : decode cX12_must 55 = .ok (.iaload, 1) := by decide +kernel
theorem dX12_must_56 : decode cX12_must 56 = .ok (.ifCond .le 26, 3) := by decide +kernel
theorem dX12_must_59 : decode cX12_must 59 = .ok (.aload_n 0, 1) := by decide +kernel
theorem dX12_must_60 : decode cX12_must 60 = .ok (.getfield 33, 3) := by decide +kernel
theorem dX12_must_63 : decode cX12_must 63 = .ok (.sipush 137, 3) := by decide +kernel
theorem dX12_must_66 : decode cX12_must 66 = .ok (.iload 4, 2) := by decide +kernel
theorem dX12_must_68 : decode cX12_must 68 = .ok (.iadd, 1) := by decide +kernel
theorem dX12_must_69 : decode cX12_must 69 = .ok (.iaload, 1) := by decide +kernel
theorem dX12_must_70 : decode cX12_must 70 = .ok (.iconst 1, 1) := by decide +kernel
theorem dX12_must_71 : decode cX12_must 71 = .ok (.isub, 1) := by decide +kernel
theorem dX12_must_72 : decode cX12_must 72 = .ok (.iload_n 1, 1) := by decide +kernel
theorem dX12_must_73 : decode cX12_must 73 = .ok (.if_icmp .gt 9, 3) := by decide +kernel
theorem dX12_must_76 : decode cX12_must 76 = .ok (.iconst 1, 1) := by decide +kernel
theorem dX12_must_77 : decode cX12_must 77 = .ok (.iload_n 3, 1) := by decide +kernel
theorem dX12_must_78 : decode cX12_must 78 = .ok (.ishl, 1) := by decide +kernel
theorem dX12_must_79 : decode cX12_must 79 = .ok (.goto 4, 3) := by decide +kernel
theorem dX12_must_82 : decode cX12_must 82 = .ok (.iconst 0, 1) := by decide +kernel
theorem dX12_must_83 : decode cX12_must 83 = .ok (.ior, 1) := by decide +kernel
theorem dX12_must_84 : decode cX12_must 84 = .ok (.istore_n 2, 1) := by decide +kernel
theorem dX12_must_85 : decode cX12_must 85 = .ok (.iinc 3 1, 3) := by decide +kernel
theorem dX12_must_88 : decode cX12_must 88 = .ok (.goto (-66), 3) := by decide +kernel
theorem dX12_must_91 : decode cX12_must 91 = .ok (.iload_n 2, 1) := by decide +kernel
theorem dX12_must_92 : decode cX12_must 92 = .ok (.ireturn, 1) := by decide +kernel
theorem dX12_name_0 : decode cX12_name 0 = .ok (.aload_n 0, 1) := by decide +kernel
theorem dX12_name_1 : decode cX12_name 1 = .ok (.iconst 0, 1) := by decide +kernel
theorem dX12_name_2 : decode cX12_name 2 = .ok (.putfield 1, 3) := by decide +kernel
theorem dX12_name_5 : decode cX12_name 5 = .ok (.aload_n 0, 1) := by decide +kernel
theorem dX12_name_6 : decode cX12_name 6 = .ok (.iload_n 1, 1) := by decide +kernel
theorem dX12_name_7 : decode cX12_name 7 = .ok (.invokevirtual 246, 3) := by decide +kernel
theorem dX12_name_10 : decode cX12_name 10 = .ok (.ifCond .ne 5, 3) := by decide +kernel
theorem dX12_name_13 : decode cX12_name 13 = .ok (.iconst (-1), 1) := by decide +kernel
theorem dX12_name_14 : decode cX12_name 14 = .ok (.ireturn, 1) := by decide +kernel
theorem dX12_name_15 : decode cX12_name 15 = .ok (.iload_n 2, 1) := by decide +kernel
theorem dX12_name_16 : decode cX12_name 16 = .ok (.tableswitch 121 0 6 #[44, 53, 59, 70, 76, 89, 95], 44) := by decide +kernel
theorem dX12_name_60 : decode cX12_name 60 = .ok (.aload_n 0, 1) := by decide +kernel
theorem dX12_name_61 : decode cX12_name 61 = .ok (.getfield 33, 3) := by decide +kernel
theorem dX12_name_64 : decode cX12_name 64 = .ok (.iconst 2, 1) := by decide +kernel
theorem dX12_name_65 : decode cX12_name 65 = .ok (.iload_n 1, 1) := by decide +kernel
theorem dX12_name_66 : decode cX12_name 66 = .ok (.iadd, 1) := by decide +kernel
theorem dX12_name_67 : decode cX12_name 67 = .ok (.iaload, 1) := by decide +kernel
theorem dX12_name_68 : decode cX12_name 68 = .ok (.ireturn, 1) := by decide +kernel
theorem dX12_name_69 : decode cX12_name 69 = .ok (.aload_n 0, 1) := by decide +kernel
theorem dX12_name_70 : decode cX12_name 70 = .ok (.iload_n 1, 1) := by decide +kernel
theorem dX12_name_71 : decode cX12_name 71 = .ok (.invokevirtual 249, 3) := by decide +kernel
theorem dX12_name_74 : decode cX12_name 74 = .ok (.ireturn, 1) := by decide +kernel
theorem dX12_name_75 : decode cX12_name 75 = .ok (.aload_n 0, 1) := by decide +kernel
theorem dX12_name_76 : decode cX12_name 76 = .ok (.getfield 33, 3) := by decide +kernel
theorem dX12_name_79 : decode cX12_name 79 = .ok (.sipush 188, 3) := by decide +kernel
theorem dX12_name_82 : decode cX12_name 82 = .ok (.iload_n 1, 1) := by decide +kernel
theorem dX12_name_83 : decode cX12_name 83 = .ok (.iadd, 1) := by decide +kernel
theorem dX12_name_84 : decode cX12_name 84 = .ok (.iaload, 1) := by decide +kernel
theorem dX12_name_85 : decode cX12_name 85 = .ok (.ireturn, 1) := by decide +kernel
theorem dX12_name_86 : decode cX12_name 86 = .ok (.aload_n 0, 1) := by decide +kernel
theorem dX12_name_87 : decode cX12_name 87 = .ok (.iload_n 1, 1) := by decide +kernel
theorem dX12_name_88 : decode cX12_name 88 = .ok (.invokevirtual 243, 3) := by decide +kernel
theorem dX12_name_91 : decode cX12_name 91 = .ok (.ireturn, 1) := by decide +kernel
theorem dX12_name_92 : decode cX12_name 92 = .ok (.aload_n 0, 1) := by decide +kernel
theorem dX12_name_93 : decode cX12_name 93 = .ok (.getfield 33, 3) := by decide +kernel
theorem dX12_name_96 : decode cX12_name 96 = .ok (.sipush 148, 3) := by decide +kernel
theorem dX12_name_99 : decode cX12_name 99 = .ok (.iaload, 1) := by decide +kernel
theorem dX12_name_100 : decode cX12_name 100 = .ok (.iload_n 1, 1) := by decide +kernel
theorem dX12_name_101 : decode cX12_name 101 = .ok (.ishr, 1) := by decide +kernel
theorem dX12_name_102 : decode cX12_name 102 = .ok (.iconst 1, 1) := by decide +kernel
theorem dX12_name_103 : decode cX12_name 103 = .ok (.iand, 1) := by decide +kernel
theorem dX12_name_104 : decode cX12_name 104 = .ok (.ireturn, 1) := by decide +kernel
theorem dX12_name_105 : decode cX12_name 105 = .ok (.aload_n 0, 1) := by decide +kernel
theorem dX12_name_106 : decode cX12_name 106 = .ok (.iload_n 1, 1) := by decide +kernel
theorem dX12_name_107 : decode cX12_name 107 = .ok (.invokevirtual 239, 3) := by decide +kernel
theorem dX12_name_110 : decode cX12_name 110 = .ok (.ireturn, 1) := by decide +kernel
theorem dX12_name_111 : decode cX12_name 111 = .ok (.aload_n 0, 1) := by decide +kernel
theorem dX12_name_112 : decode cX12_name 112 = .ok (.getfield 33, 3) := by decide +kernel
theorem dX12_name_115 : decode cX12_name 115 = .ok (.bipush 20, 2) := by decide +kernel
theorem dX12_name_117 : decode cX12_name 117 = .ok (.iload_n 1, 1) := by decide +kernel
theorem dX12_name_118 : decode cX12_name 118 = .ok (.iadd, 1) := by decide +kernel
theorem dX12_name_119 : decode cX12_name 119 = .ok (.iaload, 1) := by decide +kernel
theorem dX12_name_120 : decode cX12_name 120 = .ok (.ifCond .ne 7, 3) := by decide +kernel
theorem dX12_name_123 : decode cX12_name 123 = .ok (.iconst (-1), 1) := by decide +kernel
theorem dX12_name_124 : decode cX12_name 124 = .ok (.goto 12, 3) := by decide +kernel
theorem dX12_name_127 : decode cX12_name 127 = .ok (.aload_n 0, 1) := by decide +kernel
theorem dX12_name_128 : decode cX12_name 128 = .ok (.getfield 33, 3) := by decide +kernel
theorem dX12_name_131 : decode cX12_name 131 = .ok (.bipush 20, 2) := by decide +kernel
theorem dX12_name_133 : decode cX12_name 133 = .ok (.iload_n 1, 1) := by decide +kernel
theorem dX12_name_134 : decode cX12_name 134 = .ok (.iadd, 1) := by decide +kernel
theorem dX12_name_135 : decode cX12_name 135 = .ok (.iaload, 1) := by decide +kernel
theorem dX12_name_136 : decode cX12_name 136 = .ok (.ireturn, 1) := by decide +kernel
theorem dX12_name_137 : decode cX12_name 137 = .ok (.iconst (-1), 1) := by decide +kernel
theorem dX12_name_138 : decode cX12_name 138 = .ok (.ireturn, 1) := by decide +kernel
theorem dX12_next_0 : decode cX12_next 0 = .ok (.aload_n 0, 1) := by decide +kernel
theorem dX12_next_1 : decode cX12_next 1 = .ok (.invokevirtual 135, 3) := by decide +kernel
theorem dX12_next_4 : decode cX12_next 4 = .ok (.bipush 32, 2) := by decide +kernel
theorem dX12_next_6 : decode cX12_next 6 = .ok (.if_icmp .eq 12, 3) := by decide +kernel
theorem dX12_next_9 : decode cX12_next 9 = .ok (.aload_n 0, 1) := by decide +kernel
theorem dX12_next_10 : decode cX12_next 10 = .ok (.invokevirtual 135, 3) := by decide +kernel
theorem dX12_next_13 : decode cX12_next 13 = .ok (.bipush 10, 2) := by decide +kernel
theorem dX12_next_15 : decode cX12_next 15 = .ok (.if_icmp .ne 16, 3) := by decide +kernel
theorem dX12_next_18 : decode cX12_next 18 = .ok (.aload_n 0, 1) := by decide +kernel
theorem dX12_next_19 : decode cX12_next 19 = .ok (.dup, 1) := by decide +kernel
theorem dX12_next_20 : decode cX12_next 20 = .ok (.getfield 21, 3) := by decide +kernel
theorem dX12_next_23 : decode cX12_next 23 = .ok (.iconst 1, 1) := by decide +kernel
theorem dX12_next_24 : decode cX12_next 24 = .ok (.iadd, 1) := by decide +kernel
theorem dX12_next_25 : decode cX12_next 25 = .ok (.putfield 21, 3) := by decide +kernel
theorem dX12_next_28 : decode cX12_next 28 = .ok (.goto (-28), 3) := by decide +kernel
theorem dX12_next_31 : decode cX12_next 31 = .ok (.aload_n 0, 1) := by decide +kernel
theorem dX12_next_32 : decode cX12_next 32 = .ok (.aload_n 0, 1) := by decide +kernel
theorem dX12_next_33 : decode cX12_next 33 = .ok (.getfield 21, 3) := by decide +kernel
theorem dX12_next_36 : decode cX12_next 36 = .ok (.putfield 139, 3) := by decide +kernel
theorem dX12_next_39 : decode cX12_next 39 = .ok (.aload_n 0, 1) := by decide +kernel
theorem dX12_next_40 : decode cX12_next 40 = .ok (.iconst 0, 1) := by decide +kernel
theorem dX12_next_41 : decode cX12_next 41 = .ok (.putfield 142, 3) := by decide +kernel
theorem dX12_next_44 : decode cX12_next 44 = .ok (.aload_n 0, 1) := by decide +kernel
theorem dX12_next_45 : decode cX12_next 45 = .ok (.getfield 18, 3) := by decide +kernel
theorem dX12_next_48 : decode cX12_next 48 = .ok (.aload_n 0, 1) := by decide +kernel
theorem dX12_next_49 : decode cX12_next 49 = .ok (.getfield 24, 3) := by decide +kernel
theorem dX12_next_52 : decode cX12_next 52 = .ok (.if_icmp .le 28, 3) := by decide +kernel
theorem dX12_next_55 : decode cX12_next 55 = .ok (.aload_n 0, 1) := by decide +kernel
theorem dX12_next_56 : decode cX12_next 56 = .ok (.getfield 21, 3) := by decide +kernel
theorem dX12_next_59 : decode cX12_next 59 = .ok (.aload_n 0, 1) := by decide +kernel
theorem dX12_next_60 : decode cX12_next 60 = .ok (.getfield 24, 3) := by decide +kernel
theorem dX12_next_63 : decode cX12_next 63 = .ok (.if_icmp .lt 17, 3) := by decide +kernel
theorem dX12_next_66 : decode cX12_next 66 = .ok (.aload_n 0, 1) := by decide +kernel
theorem dX12_next_67 : decode cX12_next 67 = .ok (.aload_n 0, 1) := by decide +kernel
theorem dX12_next_68 : decode cX12_next 68 = .ok (.getfield 24, 3) := by decide +kernel
theorem dX12_next_71 : decode cX12_next 71 = .ok (.putfield 139, 3) := by decide +kernel
theorem dX12_next_74 : decode cX12_next 74 = .ok (.aload_n 0, 1) := by decide +kernel
theorem dX12_next_75 : decode cX12_next 75 = .ok (.iconst 4, 1) := by decide +kernel
theorem dX12_next_76 : decode cX12_next 76 = .ok (.putfield 145, 3) := by decide +kernel
theorem dX12_next_79 : decode cX12_next 79 = .ok (.return_, 1) := by decide +kernel
theorem dX12_next_80 : decode cX12_next 80 = .ok (.aload_n 0, 1) := by decide +kernel
theorem dX12_next_81 : decode cX12_next 81 = .ok (.invokevirtual 135, 3) := by decide +kernel
theorem dX12_next_84 : decode cX12_next 84 = .ok (.istore_n 1, 1) := by decide +kernel
theorem dX12_next_85 : decode cX12_next 85 = .ok (.iload_n 1, 1) := by decide +kernel
theorem dX12_next_86 : decode cX12_next 86 = .ok (.ifCond .ge 9, 3) := by decide +kernel
theorem dX12_next_89 : decode cX12_next 89 = .ok (.aload_n 0, 1) := by decide +kernel
theorem dX12_next_90 : decode cX12_next 90 = .ok (.iconst 0, 1) := by decide +kernel
theorem dX12_next_91 : decode cX12_next 91 = .ok (.putfield 145, 3) := by decide +kernel
theorem dX12_next_94 : decode cX12_next 94 = .ok (.return_, 1) := by decide +kernel
theorem dX12_next_95 : decode cX12_next 95 = .ok (.iload_n 1, 1) := by decide +kernel
theorem dX12_next_96 : decode cX12_next 96 = .ok (.invokestatic 148, 3) := by decide +kernel
theorem dX12_next_99 : decode cX12_next 99 = .ok (.ifCond .ne 65, 3) := by decide +kernel
theorem dX12_next_102 : decode cX12_next 102 = .ok (.iload_n 1, 1) := by decide +kernel
theorem dX12_next_103 : decode cX12_next 103 = .ok (.invokestatic 152, 3) := by decide +kernel
theorem dX12_next_106 : decode cX12_next 106 = .ok (.ifCond .ne 58, 3) := by decide +kernel
theorem dX12_next_109 : decode cX12_next 109 = .ok (.aload_n 0, 1) := by decide +kernel
theorem dX12_next_110 : decode cX12_next 110 = .ok (.iload_n 1, 1) := by decide +kernel
theorem dX12_next_111 : decode cX12_next 111 = .ok (.bipush 59, 2) := by decide +kernel
theorem dX12_next_113 : decode cX12_next 113 = .ok (.if_icmp .eq 27, 3) := by decide +kernel
theorem dX12_next_116 : decode cX12_next 116 = .ok (.iload_n 1, 1) := by decide +kernel
theorem dX12_next_117 : decode cX12_next 117 = .ok (.bipush 40, 2) := by decide +kernel
theorem dX12_next_119 : decode cX12_next 119 = .ok (.if_icmp .eq 21, 3) := by decide +kernel
theorem dX12_next_122 : decode cX12_next 122 = .ok (.iload_n 1, 1) := by decide +kernel
theorem dX12_next_123 : decode cX12_next 123 = .ok (.bipush 41, 2) := by decide +kernel
theorem dX12_next_125 : decode cX12_next 125 = .ok (.if_icmp .eq 15, 3) := by decide +kernel
theorem dX12_next_128 : decode cX12_next 128 = .ok (.iload_n 1, 1) := by decide +kernel
theorem dX12_next_129 : decode cX12_next 129 = .ok (.bipush 60, 2) := by decide +kernel
theorem dX12_next_131 : decode cX12_next 131 = .ok (.if_icmp .lt 13, 3) := by decide +kernel
theorem dX12_next_134 : decode cX12_next 134 = .ok (.iload_n 1, 1) := by decide +kernel
