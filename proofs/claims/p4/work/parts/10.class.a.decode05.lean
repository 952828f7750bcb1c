theorem dX8_readWish_46 : decode cX8_readWish 46 = .ok (.aload_n 0, 1) := by decide +kernel
theorem dX8_readWish_47 : decode cX8_readWish 47 = .ok (.getfield 9, 3) := by decide +kernel
theorem dX8_readWish_50 : decode cX8_readWish 50 = .ok (.getfield 102, 3) := by decide +kernel
theorem dX8_readWish_53 : decode cX8_readWish 53 = .ok (.invokevirtual 131, 3) := by decide +kernel
theorem dX8_readWish_56 : decode cX8_readWish 56 = .ok (.invokevirtual 138, 3) := by decide +kernel
theorem dX8_readWish_59 : decode cX8_readWish 59 = .ok (.ifCond .eq 14, 3) := by decide +kernel
theorem dX8_readWish_62 : decode cX8_readWish 62 = .ok (.aload_n 0, 1) := by decide +kernel
theorem dX8_readWish_63 : decode cX8_readWish 63 = .ok (.getfield 15, 3) := by decide +kernel
theorem dX8_readWish_66 : decode cX8_readWish 66 = .ok (.iload_n 1, 1) := by decide +kernel
theorem dX8_readWish_67 : decode cX8_readWish 67 = .ok (.invokevirtual 141, 3) := by decide +kernel
theorem dX8_readWish_70 : decode cX8_readWish 70 = .ok (.ifCond .ne 5, 3) := by decide +kernel
theorem dX8_readWish_73 : decode cX8_readWish 73 = .ok (.iconst 0, 1) := by decide +kernel
theorem dX8_readWish_74 : decode cX8_readWish 74 = .ok (.ireturn, 1) := by decide +kernel
theorem dX8_readWish_75 : decode cX8_readWish 75 = .ok (.aload_n 0, 1) := by decide +kernel
theorem dX8_readWish_76 : decode cX8_readWish 76 = .ok (.getfield 15, 3) := by decide +kernel
theorem dX8_readWish_79 : decode cX8_readWish 79 = .ok (.getfield 154, 3) := by decide +kernel
theorem dX8_readWish_82 : decode cX8_readWish 82 = .ok (.iload_n 1, 1) := by decide +kernel
theorem dX8_readWish_83 : decode cX8_readWish 83 = .ok (.aload_n 0, 1) := by decide +kernel
theorem dX8_readWish_84 : decode cX8_readWish 84 = .ok (.getfield 9, 3) := by decide +kernel
theorem dX8_readWish_87 : decode cX8_readWish 87 = .ok (.getfield 113, 3) := by decide +kernel
theorem dX8_readWish_90 : decode cX8_readWish 90 = .ok (.iastore, 1) := by decide +kernel
theorem dX8_readWish_91 : decode cX8_readWish 91 = .ok (.iconst 1, 1) := by decide +kernel
theorem dX8_readWish_92 : decode cX8_readWish 92 = .ok (.ireturn, 1) := by decide +kernel
theorem dX8_readWorth_0 : decode cX8_readWorth 0 = .ok (.aload_n 0, 1) := by decide +kernel
theorem dX8_readWorth_1 : decode cX8_readWorth 1 = .ok (.getfield 9, 3) := by decide +kernel
theorem dX8_readWorth_4 : decode cX8_readWorth 4 = .ok (.aload_n 0, 1) := by decide +kernel
theorem dX8_readWorth_5 : decode cX8_readWorth 5 = .ok (.getfield 15, 3) := by decide +kernel
theorem dX8_readWorth_8 : decode cX8_readWorth 8 = .ok (.aload_n 0, 1) := by decide +kernel
theorem dX8_readWorth_9 : decode cX8_readWorth 9 = .ok (.getfield 9, 3) := by decide +kernel
theorem dX8_readWorth_12 : decode cX8_readWorth 12 = .ok (.getfield 102, 3) := by decide +kernel
theorem dX8_readWorth_15 : decode cX8_readWorth 15 = .ok (.invokevirtual 151, 3) := by decide +kernel
theorem dX8_readWorth_18 : decode cX8_readWorth 18 = .ok (.invokevirtual 138, 3) := by decide +kernel
theorem dX8_readWorth_21 : decode cX8_readWorth 21 = .ok (.ifCond .ne 5, 3) := by decide +kernel
theorem dX8_readWorth_24 : decode cX8_readWorth 24 = .ok (.iconst 0, 1) := by decide +kernel
theorem dX8_readWorth_25 : decode cX8_readWorth 25 = .ok (.ireturn, 1) := by decide +kernel
theorem dX8_readWorth_26 : decode cX8_readWorth 26 = .ok (.aload_n 0, 1) := by decide +kernel
theorem dX8_readWorth_27 : decode cX8_readWorth 27 = .ok (.getfield 9, 3) := by decide +kernel
theorem dX8_readWorth_30 : decode cX8_readWorth 30 = .ok (.getfield 113, 3) := by decide +kernel
theorem dX8_readWorth_33 : decode cX8_readWorth 33 = .ok (.istore_n 1, 1) := by decide +kernel
theorem dX8_readWorth_34 : decode cX8_readWorth 34 = .ok (.aload_n 0, 1) := by decide +kernel
theorem dX8_readWorth_35 : decode cX8_readWorth 35 = .ok (.getfield 9, 3) := by decide +kernel
theorem dX8_readWorth_38 : decode cX8_readWorth 38 = .ok (.getfield 34, 3) := by decide +kernel
theorem dX8_readWorth_41 : decode cX8_readWorth 41 = .ok (.iconst 1, 1) := by decide +kernel
theorem dX8_readWorth_42 : decode cX8_readWorth 42 = .ok (.if_icmp .ne 37, 3) := by decide +kernel
theorem dX8_readWorth_45 : decode cX8_readWorth 45 = .ok (.aload_n 0, 1) := by decide +kernel
theorem dX8_readWorth_46 : decode cX8_readWorth 46 = .ok (.getfield 15, 3) := by decide +kernel
theorem dX8_readWorth_49 : decode cX8_readWorth 49 = .ok (.iload_n 1, 1) := by decide +kernel
theorem dX8_readWorth_50 : decode cX8_readWorth 50 = .ok (.aload_n 0, 1) := by decide +kernel
theorem dX8_readWorth_51 : decode cX8_readWorth 51 = .ok (.getfield 15, 3) := by decide +kernel
theorem dX8_readWorth_54 : decode cX8_readWorth 54 = .ok (.aload_n 0, 1) := by decide +kernel
theorem dX8_readWorth_55 : decode cX8_readWorth 55 = .ok (.getfield 9, 3) := by decide +kernel
theorem dX8_readWorth_58 : decode cX8_readWorth 58 = .ok (.getfield 102, 3) := by decide +kernel
theorem dX8_readWorth_61 : decode cX8_readWorth 61 = .ok (.invokevirtual 131, 3) := by decide +kernel
theorem dX8_readWorth_64 : decode cX8_readWorth 64 = .ok (.invokevirtual 158, 3) := by decide +kernel
theorem dX8_readWorth_67 : decode cX8_readWorth 67 = .ok (.ifCond .eq 12, 3) := by decide +kernel
theorem dX8_readWorth_70 : decode cX8_readWorth 70 = .ok (.aload_n 0, 1) := by decide +kernel
theorem dX8_readWorth_71 : decode cX8_readWorth 71 = .ok (.getfield 9, 3) := by decide +kernel
theorem dX8_readWorth_74 : decode cX8_readWorth 74 = .ok (.iconst 3, 1) := by decide +kernel
theorem dX8_readWorth_75 : decode cX8_readWorth 75 = .ok (.invokevirtual 92, 3) := by decide +kernel
theorem dX8_readWorth_78 : decode cX8_readWorth 78 = .ok (.ireturn, 1) := by decide +kernel
theorem dX8_readWorth_79 : decode cX8_readWorth 79 = .ok (.aload_n 0, 1) := by decide +kernel
theorem dX8_readWorth_80 : decode cX8_readWorth 80 = .ok (.getfield 9, 3) := by decide +kernel
theorem dX8_readWorth_83 : decode cX8_readWorth 83 = .ok (.aload_n 0, 1) := by decide +kernel
theorem dX8_readWorth_84 : decode cX8_readWorth 84 = .ok (.getfield 15, 3) := by decide +kernel
theorem dX8_readWorth_87 : decode cX8_readWorth 87 = .ok (.aload_n 0, 1) := by decide +kernel
theorem dX8_readWorth_88 : decode cX8_readWorth 88 = .ok (.getfield 9, 3) := by decide +kernel
theorem dX8_readWorth_91 : decode cX8_readWorth 91 = .ok (.getfield 102, 3) := by decide +kernel
theorem dX8_readWorth_94 : decode cX8_readWorth 94 = .ok (.invokevirtual 131, 3) := by decide +kernel
theorem dX8_readWorth_97 : decode cX8_readWorth 97 = .ok (.invokevirtual 138, 3) := by decide +kernel
theorem dX8_readWorth_100 : decode cX8_readWorth 100 = .ok (.ifCond .ne 5, 3) := by decide +kernel
theorem dX8_readWorth_103 : decode cX8_readWorth 103 = .ok (.iconst 0, 1) := by decide +kernel
theorem dX8_readWorth_104 : decode cX8_readWorth 104 = .ok (.ireturn, 1) := by decide +kernel
theorem dX8_readWorth_105 : decode cX8_readWorth 105 = .ok (.aload_n 0, 1) := by decide +kernel
theorem dX8_readWorth_106 : decode cX8_readWorth 106 = .ok (.getfield 9, 3) := by decide +kernel
theorem dX8_readWorth_109 : decode cX8_readWorth 109 = .ok (.getfield 113, 3) := by decide +kernel
theorem dX8_readWorth_112 : decode cX8_readWorth 112 = .ok (.istore_n 2, 1) := by decide +kernel
theorem dX8_readWorth_113 : decode cX8_readWorth 113 = .ok (.aload_n 0, 1) := by decide +kernel
theorem dX8_readWorth_114 : decode cX8_readWorth 114 = .ok (.getfield 9, 3) := by decide +kernel
theorem dX8_readWorth_117 : decode cX8_readWorth 117 = .ok (.iconst 1, 1) := by decide +kernel
theorem dX8_readWorth_118 : decode cX8_readWorth 118 = .ok (.bipush 99, 2) := by decide +kernel
theorem dX8_readWorth_120 : decode cX8_readWorth 120 = .ok (.invokevirtual 109, 3) := by decide +kernel
theorem dX8_readWorth_123 : decode cX8_readWorth 123 = .ok (.ifCond .eq 25, 3) := by decide +kernel
theorem dX8_readWorth_126 : decode cX8_readWorth 126 = .ok (.aload_n 0, 1) := by decide +kernel
theorem dX8_readWorth_127 : decode cX8_readWorth 127 = .ok (.getfield 15, 3) := by decide +kernel
theorem dX8_readWorth_130 : decode cX8_readWorth 130 = .ok (.iload_n 1, 1) := by decide +kernel
theorem dX8_readWorth_131 : decode cX8_readWorth 131 = .ok (.invokevirtual 141, 3) := by decide +kernel
theorem dX8_readWorth_134 : decode cX8_readWorth 134 = .ok (.ifCond .eq 14, 3) := by decide +kernel
theorem dX8_readWorth_137 : decode cX8_readWorth 137 = .ok (.aload_n 0, 1) := by decide +kernel
theorem dX8_readWorth_138 : decode cX8_readWorth 138 = .ok (.getfield 15, 3) := by decide +kernel
theorem dX8_readWorth_141 : decode cX8_readWorth 141 = .ok (.iload_n 2, 1) := by decide +kernel
theorem dX8_readWorth_142 : decode cX8_readWorth 142 = .ok (.invokevirtual 162, 3) := by decide +kernel
theorem dX8_readWorth_145 : decode cX8_readWorth 145 = .ok (.ifCond .ne 5, 3) := by decide +kernel
theorem dX8_readWorth_148 : decode cX8_readWorth 148 = .ok (.iconst 0, 1) := by decide +kernel
theorem dX8_readWorth_149 : decode cX8_readWorth 149 = .ok (.ireturn, 1) := by decide +kernel
theorem dX8_readWorth_150 : decode cX8_readWorth 150 = .ok (.aload_n 0, 1) := by decide +kernel
theorem dX8_readWorth_151 : decode cX8_readWorth 151 = .ok (.getfield 15, 3) := by decide +kernel
theorem dX8_readWorth_154 : decode cX8_readWorth 154 = .ok (.getfield 165, 3) := by decide +kernel
theorem dX8_readWorth_157 : decode cX8_readWorth 157 = .ok (.iload_n 1, 1) := by decide +kernel
theorem dX8_readWorth_158 : decode cX8_readWorth 158 = .ok (.bipush 9, 2) := by decide +kernel
theorem dX8_readWorth_160 : decode cX8_readWorth 160 = .ok (.imul, 1) := by decide +kernel
theorem dX8_readWorth_161 : decode cX8_readWorth 161 = .ok (.iload_n 2, 1) := by decide +kernel
theorem dX8_readWorth_162 : decode cX8_readWorth 162 = .ok (.iadd, 1) := by decide +kernel
theorem dX8_readWorth_163 : decode cX8_readWorth 163 = .ok (.aload_n 0, 1) := by decide +kernel
theorem dX8_readWorth_164 : decode cX8_readWorth 164 = .ok (.getfield 9, 3) := by decide +kernel
theorem dX8_readWorth_167 : decode cX8_readWorth 167 = .ok (.getfield 113, 3) := by decide +kernel
theorem dX8_readWorth_170 : decode cX8_readWorth 170 = .ok (.iastore, 1) := by decide +kernel
theorem dX8_readWorth_171 : decode cX8_readWorth 171 = .ok (.iconst 1, 1) := by decide +kernel
theorem dX8_readWorth_172 : decode cX8_readWorth 172 = .ok (.ireturn, 1) := by decide +kernel
