theorem dX5_readOne_136 : decode cX5_readOne 136 = .ok (.getfield 24, 3) := by decide +kernel
theorem dX5_readOne_139 : decode cX5_readOne 139 = .ok (.bipush 41, 2) := by decide +kernel
theorem dX5_readOne_141 : decode cX5_readOne 141 = .ok (.invokevirtual 90, 3) := by decide +kernel
theorem dX5_readOne_144 : decode cX5_readOne 144 = .ok (.ifCond .eq 7, 3) := by decide +kernel
theorem dX5_readOne_147 : decode cX5_readOne 147 = .ok (.iconst 1, 1) := by decide +kernel
theorem dX5_readOne_148 : decode cX5_readOne 148 = .ok (.goto 4, 3) := by decide +kernel
theorem dX5_readOne_151 : decode cX5_readOne 151 = .ok (.iconst 0, 1) := by decide +kernel
theorem dX5_readOne_152 : decode cX5_readOne 152 = .ok (.ireturn, 1) := by decide +kernel
theorem dX5_readOne_153 : decode cX5_readOne 153 = .ok (.aload_n 0, 1) := by decide +kernel
theorem dX5_readOne_154 : decode cX5_readOne 154 = .ok (.iload_n 2, 1) := by decide +kernel
theorem dX5_readOne_155 : decode cX5_readOne 155 = .ok (.invokevirtual 93, 3) := by decide +kernel
theorem dX5_readOne_158 : decode cX5_readOne 158 = .ok (.ireturn, 1) := by decide +kernel
theorem dX5_soulsIn_0 : decode cX5_soulsIn 0 = .ok (.iconst 1, 1) := by decide +kernel
theorem dX5_soulsIn_1 : decode cX5_soulsIn 1 = .ok (.aload_n 1, 1) := by decide +kernel
theorem dX5_soulsIn_2 : decode cX5_soulsIn 2 = .ok (.getfield 136, 3) := by decide +kernel
theorem dX5_soulsIn_5 : decode cX5_soulsIn 5 = .ok (.getfield 139, 3) := by decide +kernel
theorem dX5_soulsIn_8 : decode cX5_soulsIn 8 = .ok (.ishl, 1) := by decide +kernel
theorem dX5_soulsIn_9 : decode cX5_soulsIn 9 = .ok (.iconst 1, 1) := by decide +kernel
theorem dX5_soulsIn_10 : decode cX5_soulsIn 10 = .ok (.isub, 1) := by decide +kernel
theorem dX5_soulsIn_11 : decode cX5_soulsIn 11 = .ok (.istore_n 2, 1) := by decide +kernel
theorem dX5_soulsIn_12 : decode cX5_soulsIn 12 = .ok (.iconst 0, 1) := by decide +kernel
theorem dX5_soulsIn_13 : decode cX5_soulsIn 13 = .ok (.istore_n 3, 1) := by decide +kernel
theorem dX5_soulsIn_14 : decode cX5_soulsIn 14 = .ok (.iconst 0, 1) := by decide +kernel
theorem dX5_soulsIn_15 : decode cX5_soulsIn 15 = .ok (.istore 4, 2) := by decide +kernel
theorem dX5_soulsIn_17 : decode cX5_soulsIn 17 = .ok (.iload 4, 2) := by decide +kernel
theorem dX5_soulsIn_19 : decode cX5_soulsIn 19 = .ok (.aload_n 0, 1) := by decide +kernel
theorem dX5_soulsIn_20 : decode cX5_soulsIn 20 = .ok (.getfield 32, 3) := by decide +kernel
theorem dX5_soulsIn_23 : decode cX5_soulsIn 23 = .ok (.if_icmp .ge 157, 3) := by decide +kernel
theorem dX5_soulsIn_26 : decode cX5_soulsIn 26 = .ok (.aload_n 0, 1) := by decide +kernel
theorem dX5_soulsIn_27 : decode cX5_soulsIn 27 = .ok (.getfield 11, 3) := by decide +kernel
theorem dX5_soulsIn_30 : decode cX5_soulsIn 30 = .ok (.iload 4, 2) := by decide +kernel
theorem dX5_soulsIn_32 : decode cX5_soulsIn 32 = .ok (.iaload, 1) := by decide +kernel
theorem dX5_soulsIn_33 : decode cX5_soulsIn 33 = .ok (.ifCond .ne 30, 3) := by decide +kernel
theorem dX5_soulsIn_36 : decode cX5_soulsIn 36 = .ok (.iload_n 3, 1) := by decide +kernel
theorem dX5_soulsIn_37 : decode cX5_soulsIn 37 = .ok (.ifCond .le 26, 3) := by decide +kernel
theorem dX5_soulsIn_40 : decode cX5_soulsIn 40 = .ok (.aload_n 0, 1) := by decide +kernel
theorem dX5_soulsIn_41 : decode cX5_soulsIn 41 = .ok (.getfield 21, 3) := by decide +kernel
theorem dX5_soulsIn_44 : decode cX5_soulsIn 44 = .ok (.iload_n 3, 1) := by decide +kernel
theorem dX5_soulsIn_45 : decode cX5_soulsIn 45 = .ok (.iconst 1, 1) := by decide +kernel
theorem dX5_soulsIn_46 : decode cX5_soulsIn 46 = .ok (.isub, 1) := by decide +kernel
theorem dX5_soulsIn_47 : decode cX5_soulsIn 47 = .ok (.iload_n 2, 1) := by decide +kernel
theorem dX5_soulsIn_48 : decode cX5_soulsIn 48 = .ok (.aload_n 0, 1) := by decide +kernel
theorem dX5_soulsIn_49 : decode cX5_soulsIn 49 = .ok (.getfield 21, 3) := by decide +kernel
theorem dX5_soulsIn_52 : decode cX5_soulsIn 52 = .ok (.iload_n 3, 1) := by decide +kernel
theorem dX5_soulsIn_53 : decode cX5_soulsIn 53 = .ok (.iconst 1, 1) := by decide +kernel
theorem dX5_soulsIn_54 : decode cX5_soulsIn 54 = .ok (.isub, 1) := by decide +kernel
theorem dX5_soulsIn_55 : decode cX5_soulsIn 55 = .ok (.iaload, 1) := by decide +kernel
theorem dX5_soulsIn_56 : decode cX5_soulsIn 56 = .ok (.iconst (-1), 1) := by decide +kernel
theorem dX5_soulsIn_57 : decode cX5_soulsIn 57 = .ok (.ixor, 1) := by decide +kernel
theorem dX5_soulsIn_58 : decode cX5_soulsIn 58 = .ok (.iand, 1) := by decide +kernel
theorem dX5_soulsIn_59 : decode cX5_soulsIn 59 = .ok (.iastore, 1) := by decide +kernel
theorem dX5_soulsIn_60 : decode cX5_soulsIn 60 = .ok (.goto 114, 3) := by decide +kernel
theorem dX5_soulsIn_63 : decode cX5_soulsIn 63 = .ok (.aload_n 0, 1) := by decide +kernel
theorem dX5_soulsIn_64 : decode cX5_soulsIn 64 = .ok (.getfield 11, 3) := by decide +kernel
theorem dX5_soulsIn_67 : decode cX5_soulsIn 67 = .ok (.iload 4, 2) := by decide +kernel
theorem dX5_soulsIn_69 : decode cX5_soulsIn 69 = .ok (.iaload, 1) := by decide +kernel
theorem dX5_soulsIn_70 : decode cX5_soulsIn 70 = .ok (.iconst 1, 1) := by decide +kernel
theorem dX5_soulsIn_71 : decode cX5_soulsIn 71 = .ok (.if_icmp .ne 31, 3) := by decide +kernel
theorem dX5_soulsIn_74 : decode cX5_soulsIn 74 = .ok (.iload_n 3, 1) := by decide +kernel
theorem dX5_soulsIn_75 : decode cX5_soulsIn 75 = .ok (.iconst 1, 1) := by decide +kernel
theorem dX5_soulsIn_76 : decode cX5_soulsIn 76 = .ok (.if_icmp .le 26, 3) := by decide +kernel
theorem dX5_soulsIn_79 : decode cX5_soulsIn 79 = .ok (.iinc 3 (-1), 3) := by decide +kernel
theorem dX5_soulsIn_82 : decode cX5_soulsIn 82 = .ok (.aload_n 0, 1) := by decide +kernel
theorem dX5_soulsIn_83 : decode cX5_soulsIn 83 = .ok (.getfield 21, 3) := by decide +kernel
theorem dX5_soulsIn_86 : decode cX5_soulsIn 86 = .ok (.iload_n 3, 1) := by decide +kernel
theorem dX5_soulsIn_87 : decode cX5_soulsIn 87 = .ok (.iconst 1, 1) := by decide +kernel
theorem dX5_soulsIn_88 : decode cX5_soulsIn 88 = .ok (.isub, 1) := by decide +kernel
theorem dX5_soulsIn_89 : decode cX5_soulsIn 89 = .ok (.dup2, 1) := by decide +kernel
theorem dX5_soulsIn_90 : decode cX5_soulsIn 90 = .ok (.iaload, 1) := by decide +kernel
theorem dX5_soulsIn_91 : decode cX5_soulsIn 91 = .ok (.aload_n 0, 1) := by decide +kernel
theorem dX5_soulsIn_92 : decode cX5_soulsIn 92 = .ok (.getfield 21, 3) := by decide +kernel
theorem dX5_soulsIn_95 : decode cX5_soulsIn 95 = .ok (.iload_n 3, 1) := by decide +kernel
theorem dX5_soulsIn_96 : decode cX5_soulsIn 96 = .ok (.iaload, 1) := by decide +kernel
theorem dX5_soulsIn_97 : decode cX5_soulsIn 97 = .ok (.iand, 1) := by decide +kernel
theorem dX5_soulsIn_98 : decode cX5_soulsIn 98 = .ok (.iastore, 1) := by decide +kernel
theorem dX5_soulsIn_99 : decode cX5_soulsIn 99 = .ok (.goto 75, 3) := by decide +kernel
theorem dX5_soulsIn_102 : decode cX5_soulsIn 102 = .ok (.aload_n 0, 1) := by decide +kernel
theorem dX5_soulsIn_103 : decode cX5_soulsIn 103 = .ok (.getfield 11, 3) := by decide +kernel
theorem dX5_soulsIn_106 : decode cX5_soulsIn 106 = .ok (.iload 4, 2) := by decide +kernel
theorem dX5_soulsIn_108 : decode cX5_soulsIn 108 = .ok (.iaload, 1) := by decide +kernel
theorem dX5_soulsIn_109 : decode cX5_soulsIn 109 = .ok (.iconst 2, 1) := by decide +kernel
theorem dX5_soulsIn_110 : decode cX5_soulsIn 110 = .ok (.if_icmp .ne 31, 3) := by decide +kernel
theorem dX5_soulsIn_113 : decode cX5_soulsIn 113 = .ok (.iload_n 3, 1) := by decide +kernel
theorem dX5_soulsIn_114 : decode cX5_soulsIn 114 = .ok (.iconst 1, 1) := by decide +kernel
theorem dX5_soulsIn_115 : decode cX5_soulsIn 115 = .ok (.if_icmp .le 26, 3) := by decide +kernel
theorem dX5_soulsIn_118 : decode cX5_soulsIn 118 = .ok (.iinc 3 (-1), 3) := by decide +kernel
theorem dX5_soulsIn_121 : decode cX5_soulsIn 121 = .ok (.aload_n 0, 1) := by decide +kernel
theorem dX5_soulsIn_122 : decode cX5_soulsIn 122 = .ok (.getfield 21, 3) := by decide +kernel
theorem dX5_soulsIn_125 : decode cX5_soulsIn 125 = .ok (.iload_n 3, 1) := by decide +kernel
theorem dX5_soulsIn_126 : decode cX5_soulsIn 126 = .ok (.iconst 1, 1) := by decide +kernel
theorem dX5_soulsIn_127 : decode cX5_soulsIn 127 = .ok (.isub, 1) := by decide +kernel
theorem dX5_soulsIn_128 : decode cX5_soulsIn 128 = .ok (.dup2, 1) := by decide +kernel
theorem dX5_soulsIn_129 : decode cX5_soulsIn 129 = .ok (.iaload, 1) := by decide +kernel
theorem dX5_soulsIn_130 : decode cX5_soulsIn 130 = .ok (.aload_n 0, 1) := by decide +kernel
theorem dX5_soulsIn_131 : decode cX5_soulsIn 131 = .ok (.getfield 21, 3) := by decide +kernel
theorem dX5_soulsIn_134 : decode cX5_soulsIn 134 = .ok (.iload_n 3, 1) := by decide +kernel
theorem dX5_soulsIn_135 : decode cX5_soulsIn 135 = .ok (.iaload, 1) := by decide +kernel
theorem dX5_soulsIn_136 : decode cX5_soulsIn 136 = .ok (.ior, 1) := by decide +kernel
theorem dX5_soulsIn_137 : decode cX5_soulsIn 137 = .ok (.iastore, 1) := by decide +kernel
theorem dX5_soulsIn_138 : decode cX5_soulsIn 138 = .ok (.goto 36, 3) := by decide +kernel
theorem dX5_soulsIn_141 : decode cX5_soulsIn 141 = .ok (.aload_n 0, 1) := by decide +kernel
theorem dX5_soulsIn_142 : decode cX5_soulsIn 142 = .ok (.getfield 11, 3) := by decide +kernel
theorem dX5_soulsIn_145 : decode cX5_soulsIn 145 = .ok (.iload 4, 2) := by decide +kernel
theorem dX5_soulsIn_147 : decode cX5_soulsIn 147 = .ok (.iaload, 1) := by decide +kernel
theorem dX5_soulsIn_148 : decode cX5_soulsIn 148 = .ok (.iconst 2, 1) := by decide +kernel
theorem dX5_soulsIn_149 : decode cX5_soulsIn 149 = .ok (.if_icmp .le 25, 3) := by decide +kernel
theorem dX5_soulsIn_152 : decode cX5_soulsIn 152 = .ok (.iload_n 3, 1) := by decide +kernel
theorem dX5_soulsIn_153 : decode cX5_soulsIn 153 = .ok (.bipush 40, 2) := by decide +kernel
theorem dX5_soulsIn_155 : decode cX5_soulsIn 155 = .ok (.if_icmp .ge 19, 3) := by decide +kernel
theorem dX5_soulsIn_158 : decode cX5_soulsIn 158 = .ok (.aload_n 0, 1) := by decide +kernel
theorem dX5_soulsIn_159 : decode cX5_soulsIn 159 = .ok (.getfield 21, 3) := by decide +kernel
theorem dX5_soulsIn_162 : decode cX5_soulsIn 162 = .ok (.iload_n 3, 1) := by decide +kernel
theorem dX5_soulsIn_163 : decode cX5_soulsIn 163 = .ok (.aload_n 0, 1) := by decide +kernel
theorem dX5_soulsIn_164 : decode cX5_soulsIn 164 = .ok (.iload 4, 2) := by decide +kernel
theorem dX5_soulsIn_166 : decode cX5_soulsIn 166 = .ok (.aload_n 1, 1) := by decide +kernel
theorem dX5_soulsIn_167 : decode cX5_soulsIn 167 = .ok (.invokevirtual 142, 3) := by decide +kernel
theorem dX5_soulsIn_170 : decode cX5_soulsIn 170 = .ok (.iastore, 1) := by decide +kernel
theorem dX5_soulsIn_171 : decode cX5_soulsIn 171 = .ok (.iinc 3 1, 3) := by decide +kernel
theorem dX5_soulsIn_174 : decode cX5_soulsIn 174 = .ok (.iinc 4 1, 3) := by decide +kernel
theorem dX5_soulsIn_177 : decode cX5_soulsIn 177 = .ok (.goto (-160), 3) := by decide +kernel
theorem dX5_soulsIn_180 : decode cX5_soulsIn 180 = .ok (.aload_n 0, 1) := by decide +kernel
theorem dX5_soulsIn_181 : decode cX5_soulsIn 181 = .ok (.getfield 21, 3) := by decide +kernel
theorem dX5_soulsIn_184 : decode cX5_soulsIn 184 = .ok (.iconst 0, 1) := by decide +kernel
theorem dX5_soulsIn_185 : decode cX5_soulsIn 185 = .ok (.iaload, 1) := by decide +kernel
theorem dX5_soulsIn_186 : decode cX5_soulsIn 186 = .ok (.ireturn, 1) := by decide +kernel
theorem dX5_soulsOfLeaf_0 : decode cX5_soulsOfLeaf 0 = .ok (.iconst 0, 1) := by decide +kernel
theorem dX5_soulsOfLeaf_1 : decode cX5_soulsOfLeaf 1 = .ok (.istore_n 3, 1) := by decide +kernel
theorem dX5_soulsOfLeaf_2 : decode cX5_soulsOfLeaf 2 = .ok (.iconst 0, 1) := by decide +kernel
theorem dX5_soulsOfLeaf_3 : decode cX5_soulsOfLeaf 3 = .ok (.istore 4, 2) := by decide +kernel
theorem dX5_soulsOfLeaf_5 : decode cX5_soulsOfLeaf 5 = .ok (.iload 4, 2) := by decide +kernel
theorem dX5_soulsOfLeaf_7 : decode cX5_soulsOfLeaf 7 = .ok (.aload_n 2, 1) := by decide +kernel
theorem dX5_soulsOfLeaf_8 : decode cX5_soulsOfLeaf 8 = .ok (.getfield 136, 3) := by decide +kernel
theorem dX5_soulsOfLeaf_11 : decode cX5_soulsOfLeaf 11 = .ok (.getfield 139, 3) := by decide +kernel
theorem dX5_soulsOfLeaf_14 : decode cX5_soulsOfLeaf 14 = .ok (.if_icmp .ge 52, 3) := by decide +kernel
theorem dX5_soulsOfLeaf_17 : decode cX5_soulsOfLeaf 17 = .ok (.aload_n 0, 1) := by decide +kernel
theorem dX5_soulsOfLeaf_18 : decode cX5_soulsOfLeaf 18 = .ok (.getfield 11, 3) := by decide +kernel
theorem dX5_soulsOfLeaf_21 : decode cX5_soulsOfLeaf 21 = .ok (.iload_n 1, 1) := by decide +kernel
theorem dX5_soulsOfLeaf_22 : decode cX5_soulsOfLeaf 22 = .ok (.iaload, 1) := by decide +kernel
theorem dX5_soulsOfLeaf_23 : decode cX5_soulsOfLeaf 23 = .ok (.bipush 8, 2) := by decide +kernel
theorem dX5_soulsOfLeaf_25 : decode cX5_soulsOfLeaf 25 = .ok (.if_icmp .lt 17, 3) := by decide +kernel
theorem dX5_soulsOfLeaf_28 : decode cX5_soulsOfLeaf 28 = .ok (.aload_n 0, 1) := by decide +kernel
theorem dX5_soulsOfLeaf_29 : decode cX5_soulsOfLeaf 29 = .ok (.iload_n 1, 1) := by decide +kernel
theorem dX5_soulsOfLeaf_30 : decode cX5_soulsOfLeaf 30 = .ok (.aload_n 2, 1) := by decide +kernel
theorem dX5_soulsOfLeaf_31 : decode cX5_soulsOfLeaf 31 = .ok (.iload 4, 2) := by decide +kernel
theorem dX5_soulsOfLeaf_33 : decode cX5_soulsOfLeaf 33 = .ok (.invokevirtual 146, 3) := by decide +kernel
theorem dX5_soulsOfLeaf_36 : decode cX5_soulsOfLeaf 36 = .ok (.ifCond .eq 24, 3) := by decide +kernel
theorem dX5_soulsOfLeaf_39 : decode cX5_soulsOfLeaf 39 = .ok (.goto 14, 3) := by decide +kernel
theorem dX5_soulsOfLeaf_42 : decode cX5_soulsOfLeaf 42 = .ok (.aload_n 0, 1) := by decide +kernel
theorem dX5_soulsOfLeaf_43 : decode cX5_soulsOfLeaf 43 = .ok (.iload_n 1, 1) := by decide +kernel
theorem dX5_soulsOfLeaf_44 : decode cX5_soulsOfLeaf 44 = .ok (.aload_n 2, 1) := by decide +kernel
theorem dX5_soulsOfLeaf_45 : decode cX5_soulsOfLeaf 45 = .ok (.iload 4, 2) := by decide +kernel
theorem dX5_soulsOfLeaf_47 : decode cX5_soulsOfLeaf 47 = .ok (.invokevirtual 150, 3) := by decide +kernel
theorem dX5_soulsOfLeaf_50 : decode cX5_soulsOfLeaf 50 = .ok (.ifCond .eq 10, 3) := by decide +kernel
theorem dX5_soulsOfLeaf_53 : decode cX5_soulsOfLeaf 53 = .ok (.iload_n 3, 1) := by decide +kernel
theorem dX5_soulsOfLeaf_54 : decode cX5_soulsOfLeaf 54 = .ok (.iconst 1, 1) := by decide +kernel
theorem dX5_soulsOfLeaf_55 : decode cX5_soulsOfLeaf 55 = .ok (.iload 4, 2) := by decide +kernel
theorem dX5_soulsOfLeaf_57 : decode cX5_soulsOfLeaf 57 = .ok (.ishl, 1) := by decide +kernel
theorem dX5_soulsOfLeaf_58 : decode cX5_soulsOfLeaf 58 = .ok (.ior, 1) := by decide +kernel
theorem dX5_soulsOfLeaf_59 : decode cX5_soulsOfLeaf 59 = .ok (.istore_n 3, 1) := by decide +kernel
theorem dX5_soulsOfLeaf_60 : decode cX5_soulsOfLeaf 60 = .ok (.iinc 4 1, 3) := by decide +kernel
theorem dX5_soulsOfLeaf_63 : decode cX5_soulsOfLeaf 63 = .ok (.goto (-58), 3) := by decide +kernel
theorem dX5_soulsOfLeaf_66 : decode cX5_soulsOfLeaf 66 = .ok (.iload_n 3, 1) := by decide +kernel
theorem dX5_soulsOfLeaf_67 : decode cX5_soulsOfLeaf 67 = .ok (.ireturn, 1) := by decide +kernel
theorem dX6_advance_0 : decode cX6_advance 0 = .ok (.aload_n 0, 1) := by decide +kernel
theorem dX6_advance_1 : decode cX6_advance 1 = .ok (.getfield 48, 3) := by decide +kernel
theorem dX6_advance_4 : decode cX6_advance 4 = .ok (.aload_n 0, 1) := by decide +kernel
theorem dX6_advance_5 : decode cX6_advance 5 = .ok (.getfield 43, 3) := by decide +kernel
theorem dX6_advance_8 : decode cX6_advance 8 = .ok (.if_icmp .ge 44, 3) := by decide +kernel
theorem dX6_advance_11 : decode cX6_advance 11 = .ok (.aload_n 0, 1) := by decide +kernel
theorem dX6_advance_12 : decode cX6_advance 12 = .ok (.getfield 11, 3) := by decide +kernel
theorem dX6_advance_15 : decode cX6_advance 15 = .ok (.aload_n 0, 1) := by decide +kernel
theorem dX6_advance_16 : decode cX6_advance 16 = .ok (.getfield 48, 3) := by decide +kernel
theorem dX6_advance_19 : decode cX6_advance 19 = .ok (.baload, 1) := by decide +kernel
theorem dX6_advance_20 : decode cX6_advance 20 = .ok (.bipush 32, 2) := by decide +kernel
theorem dX6_advance_22 : decode cX6_advance 22 = .ok (.if_icmp .eq 17, 3) := by decide +kernel
theorem dX6_advance_25 : decode cX6_advance 25 = .ok (.aload_n 0, 1) := by decide +kernel
theorem dX6_advance_26 : decode cX6_advance 26 = .ok (.getfield 11, 3) := by decide +kernel
theorem dX6_advance_29 : decode cX6_advance 29 = .ok (.aload_n 0, 1) := by decide +kernel
theorem dX6_advance_30 : decode cX6_advance 30 = .ok (.getfield 48, 3) := by decide +kernel
theorem dX6_advance_33 : decode cX6_advance 33 = .ok (.baload, 1) := by decide +kernel
theorem dX6_advance_34 : decode cX6_advance 34 = .ok (.bipush 10, 2) := by decide +kernel
theorem dX6_advance_36 : decode cX6_advance 36 = .ok (.if_icmp .ne 16, 3) := by decide +kernel
theorem dX6_advance_39 : decode cX6_advance 39 = .ok (.aload_n 0, 1) := by decide +kernel
theorem dX6_advance_40 : decode cX6_advance 40 = .ok (.dup, 1) := by decide +kernel
theorem dX6_advance_41 : decode cX6_advance 41 = .ok (.getfield 48, 3) := by decide +kernel
theorem dX6_advance_44 : decode cX6_advance 44 = .ok (.iconst 1, 1) := by decide +kernel
theorem dX6_advance_45 : decode cX6_advance 45 = .ok (.iadd, 1) := by decide +kernel
theorem dX6_advance_46 : decode cX6_advance 46 = .ok (.putfield 48, 3) := by decide +kernel
theorem dX6_advance_49 : decode cX6_advance 49 = .ok (.goto (-49), 3) := by decide +kernel
theorem dX6_advance_52 : decode cX6_advance 52 = .ok (.aload_n 0, 1) := by decide +kernel
theorem dX6_advance_53 : decode cX6_advance 53 = .ok (.getfield 48, 3) := by decide +kernel
theorem dX6_advance_56 : decode cX6_advance 56 = .ok (.aload_n 0, 1) := by decide +kernel
theorem dX6_advance_57 : decode cX6_advance 57 = .ok (.getfield 43, 3) := by decide +kernel
theorem dX6_advance_60 : decode cX6_advance 60 = .ok (.if_icmp .ge 14, 3) := by decide +kernel
theorem dX6_advance_63 : decode cX6_advance 63 = .ok (.aload_n 0, 1) := by decide +kernel
theorem dX6_advance_64 : decode cX6_advance 64 = .ok (.getfield 48, 3) := by decide +kernel
theorem dX6_advance_67 : decode cX6_advance 67 = .ok (.aload_n 0, 1) := by decide +kernel
theorem dX6_advance_68 : decode cX6_advance 68 = .ok (.getfield 45, 3) := by decide +kernel
theorem dX6_advance_71 : decode cX6_advance 71 = .ok (.if_icmp .lt 50, 3) := by decide +kernel
theorem dX6_advance_74 : decode cX6_advance 74 = .ok (.aload_n 0, 1) := by decide +kernel
theorem dX6_advance_75 : decode cX6_advance 75 = .ok (.aload_n 0, 1) := by decide +kernel
theorem dX6_advance_76 : decode cX6_advance 76 = .ok (.getfield 43, 3) := by decide +kernel
theorem dX6_advance_79 : decode cX6_advance 79 = .ok (.aload_n 0, 1) := by decide +kernel
theorem dX6_advance_80 : decode cX6_advance 80 = .ok (.getfield 45, 3) := by decide +kernel
theorem dX6_advance_83 : decode cX6_advance 83 = .ok (.if_icmp .le 7, 3) := by decide +kernel
theorem dX6_advance_86 : decode cX6_advance 86 = .ok (.iconst 4, 1) := by decide +kernel
theorem dX6_advance_87 : decode cX6_advance 87 = .ok (.goto 4, 3) := by decide +kernel
theorem dX6_advance_90 : decode cX6_advance 90 = .ok (.iconst 0, 1) := by decide +kernel
theorem dX6_advance_91 : decode cX6_advance 91 = .ok (.putfield 60, 3) := by decide +kernel
theorem dX6_advance_94 : decode cX6_advance 94 = .ok (.aload_n 0, 1) := by decide +kernel
theorem dX6_advance_95 : decode cX6_advance 95 = .ok (.aload_n 0, 1) := by decide +kernel
theorem dX6_advance_96 : decode cX6_advance 96 = .ok (.getfield 43, 3) := by decide +kernel
theorem dX6_advance_99 : decode cX6_advance 99 = .ok (.aload_n 0, 1) := by decide +kernel
theorem dX6_advance_100 : decode cX6_advance 100 = .ok (.getfield 45, 3) := by decide +kernel
theorem dX6_advance_103 : decode cX6_advance 103 = .ok (.if_icmp .le 10, 3) := by decide +kernel
theorem dX6_advance_106 : decode cX6_advance 106 = .ok (.aload_n 0, 1) := by decide +kernel
theorem dX6_advance_107 : decode cX6_advance 107 = .ok (.getfield 45, 3) := by decide +kernel
theorem dX6_advance_110 : decode cX6_advance 110 = .ok (.goto 7, 3) := by decide +kernel
theorem dX6_advance_113 : decode cX6_advance 113 = .ok (.aload_n 0, 1) := by decide +kernel
theorem dX6_advance_114 : decode cX6_advance 114 = .ok (.getfield 43, 3) := by decide +kernel
theorem dX6_advance_117 : decode cX6_advance 117 = .ok (.putfield 63, 3) := by decide +kernel
theorem dX6_advance_120 : decode cX6_advance 120 = .ok (.return_, 1) := by decide +kernel
theorem dX6_advance_121 : decode cX6_advance 121 = .ok (.aload_n 0, 1) := by decide +kernel
theorem dX6_advance_122 : decode cX6_advance 122 = .ok (.aload_n 0, 1) := by decide +kernel
theorem dX6_advance_123 : decode cX6_advance 123 = .ok (.getfield 48, 3) := by decide +kernel
theorem dX6_advance_126 : decode cX6_advance 126 = .ok (.putfield 63, 3) := by decide +kernel
theorem dX6_advance_129 : decode cX6_advance 129 = .ok (.aload_n 0, 1) := by decide +kernel
theorem dX6_advance_130 : decode cX6_advance 130 = .ok (.aload_n 0, 1) := by decide +kernel
theorem dX6_advance_131 : decode cX6_advance 131 = .ok (.getfield 11, 3) := by decide +kernel
theorem dX6_advance_134 : decode cX6_advance 134 = .ok (.aload_n 0, 1) := by decide +kernel
theorem dX6_advance_135 : decode cX6_advance 135 = .ok (.getfield 48, 3) := by decide +kernel
theorem dX6_advance_138 : decode cX6_advance 138 = .ok (.baload, 1) := by decide +kernel
theorem dX6_advance_139 : decode cX6_advance 139 = .ok (.putfield 66, 3) := by decide +kernel
theorem dX6_advance_142 : decode cX6_advance 142 = .ok (.aload_n 0, 1) := by decide +kernel
theorem dX6_advance_143 : decode cX6_advance 143 = .ok (.lconst 0, 1) := by decide +kernel
theorem dX6_advance_144 : decode cX6_advance 144 = .ok (.putfield 69, 3) := by decide +kernel
theorem dX6_advance_147 : decode cX6_advance 147 = .ok (.aload_n 0, 1) := by decide +kernel
theorem dX6_advance_148 : decode cX6_advance 148 = .ok (.iconst 0, 1) := by decide +kernel
theorem dX6_advance_149 : decode cX6_advance 149 = .ok (.putfield 73, 3) := by decide +kernel
theorem dX6_advance_152 : decode cX6_advance 152 = .ok (.iconst 0, 1) := by decide +kernel
theorem dX6_advance_153 : decode cX6_advance 153 = .ok (.istore_n 1, 1) := by decide +kernel
theorem dX6_advance_154 : decode cX6_advance 154 = .ok (.iconst 0, 1) := by decide +kernel
theorem dX6_advance_155 : decode cX6_advance 155 = .ok (.istore_n 2, 1) := by decide +kernel
theorem dX6_advance_156 : decode cX6_advance 156 = .ok (.aload_n 0, 1) := by decide +kernel
theorem dX6_advance_157 : decode cX6_advance 157 = .ok (.getfield 48, 3) := by decide +kernel
theorem dX6_advance_160 : decode cX6_advance 160 = .ok (.aload_n 0, 1) := by decide +kernel
theorem dX6_advance_161 : decode cX6_advance 161 = .ok (.getfield 43, 3) := by decide +kernel
theorem dX6_advance_164 : decode cX6_advance 164 = .ok (.if_icmp .ge 89, 3) := by decide +kernel
theorem dX6_advance_167 : decode cX6_advance 167 = .ok (.aload_n 0, 1) := by decide +kernel
theorem dX6_advance_168 : decode cX6_advance 168 = .ok (.getfield 11, 3) := by decide +kernel
theorem dX6_advance_171 : decode cX6_advance 171 = .ok (.aload_n 0, 1) := by decide +kernel
theorem dX6_advance_172 : decode cX6_advance 172 = .ok (.getfield 48, 3) := by decide +kernel
theorem dX6_advance_175 : decode cX6_advance 175 = .ok (.baload, 1) := by decide +kernel
theorem dX6_advance_176 : decode cX6_advance 176 = .ok (.istore_n 3, 1) := by decide +kernel
theorem dX6_advance_177 : decode cX6_advance 177 = .ok (.iload_n 3, 1) := by decide +kernel
theorem dX6_advance_178 : decode cX6_advance 178 = .ok (.bipush 97, 2) := by decide +kernel
theorem dX6_advance_180 : decode cX6_advance 180 = .ok (.if_icmp .lt 29, 3) := by decide +kernel
theorem dX6_advance_183 : decode cX6_advance 183 = .ok (.iload_n 3, 1) := by decide +kernel
theorem dX6_advance_184 : decode cX6_advance 184 = .ok (.bipush 122, 2) := by decide +kernel
theorem dX6_advance_186 : decode cX6_advance 186 = .ok (.if_icmp .gt 23, 3) := by decide +kernel
theorem dX6_advance_189 : decode cX6_advance 189 = .ok (.iinc 1 1, 3) := by decide +kernel
theorem dX6_advance_192 : decode cX6_advance 192 = .ok (.aload_n 0, 1) := by decide +kernel
theorem dX6_advance_193 : decode cX6_advance 193 = .ok (.aload_n 0, 1) := by decide +kernel
theorem dX6_advance_194 : decode cX6_advance 194 = .ok (.getfield 69, 3) := by decide +kernel
theorem dX6_advance_197 : decode cX6_advance 197 = .ok (.bipush 8, 2) := by decide +kernel
theorem dX6_advance_199 : decode cX6_advance 199 = .ok (.lshl, 1) := by decide +kernel
theorem dX6_advance_200 : decode cX6_advance 200 = .ok (.iload_n 3, 1) := by decide +kernel
theorem dX6_advance_201 : decode cX6_advance 201 = .ok (.i2l, 1) := by decide +kernel
theorem dX6_advance_202 : decode cX6_advance 202 = .ok (.lor, 1) := by decide +kernel
theorem dX6_advance_203 : decode cX6_advance 203 = .ok (.putfield 69, 3) := by decide +kernel
theorem dX6_advance_206 : decode cX6_advance 206 = .ok (.goto 34, 3) := by decide +kernel
theorem dX6_advance_209 : decode cX6_advance 209 = .ok (.iload_n 3, 1) := by decide +kernel
theorem dX6_advance_210 : decode cX6_advance 210 = .ok (.bipush 48, 2) := by decide +kernel
theorem dX6_advance_212 : decode cX6_advance 212 = .ok (.if_icmp .lt 41, 3) := by decide +kernel
theorem dX6_advance_215 : decode cX6_advance 215 = .ok (.iload_n 3, 1) := by decide +kernel
theorem dX6_advance_216 : decode cX6_advance 216 = .ok (.bipush 57, 2) := by decide +kernel
theorem dX6_advance_218 : decode cX6_advance 218 = .ok (.if_icmp .gt 35, 3) := by decide +kernel
theorem dX6_advance_221 : decode cX6_advance 221 = .ok (.iinc 2 1, 3) := by decide +kernel
theorem dX6_advance_224 : decode cX6_advance 224 = .ok (.aload_n 0, 1) := by decide +kernel
theorem dX6_advance_225 : decode cX6_advance 225 = .ok (.aload_n 0, 1) := by decide +kernel
theorem dX6_advance_226 : decode cX6_advance 226 = .ok (.getfield 73, 3) := by decide +kernel
theorem dX6_advance_229 : decode cX6_advance 229 = .ok (.bipush 10, 2) := by decide +kernel
theorem dX6_advance_231 : decode cX6_advance 231 = .ok (.imul, 1) := by decide +kernel
theorem dX6_advance_232 : decode cX6_advance 232 = .ok (.iload_n 3, 1) := by decide +kernel
theorem dX6_advance_233 : decode cX6_advance 233 = .ok (.iadd, 1) := by decide +kernel
theorem dX6_advance_234 : decode cX6_advance 234 = .ok (.bipush 48, 2) := by decide +kernel
theorem dX6_advance_236 : decode cX6_advance 236 = .ok (.isub, 1) := by decide +kernel
theorem dX6_advance_237 : decode cX6_advance 237 = .ok (.putfield 73, 3) := by decide +kernel
theorem dX6_advance_240 : decode cX6_advance 240 = .ok (.aload_n 0, 1) := by decide +kernel
theorem dX6_advance_241 : decode cX6_advance 241 = .ok (.dup, 1) := by decide +kernel
theorem dX6_advance_242 : decode cX6_advance 242 = .ok (.getfield 48, 3) := by decide +kernel
theorem dX6_advance_245 : decode cX6_advance 245 = .ok (.iconst 1, 1) := by decide +kernel
theorem dX6_advance_246 : decode cX6_advance 246 = .ok (.iadd, 1) := by decide +kernel
theorem dX6_advance_247 : decode cX6_advance 247 = .ok (.putfield 48, 3) := by decide +kernel
theorem dX6_advance_250 : decode cX6_advance 250 = .ok (.goto (-94), 3) := by decide +kernel
theorem dX6_advance_253 : decode cX6_advance 253 = .ok (.iload_n 1, 1) := by decide +kernel
theorem dX6_advance_254 : decode cX6_advance 254 = .ok (.iload_n 2, 1) := by decide +kernel
theorem dX6_advance_255 : decode cX6_advance 255 = .ok (.iadd, 1) := by decide +kernel
theorem dX6_advance_256 : decode cX6_advance 256 = .ok (.ifCond .ne 70, 3) := by decide +kernel
theorem dX6_advance_259 : decode cX6_advance 259 = .ok (.aload_n 0, 1) := by decide +kernel
theorem dX6_advance_260 : decode cX6_advance 260 = .ok (.dup, 1) := by decide +kernel
theorem dX6_advance_261 : decode cX6_advance 261 = .ok (.getfield 48, 3) := by decide +kernel
theorem dX6_advance_264 : decode cX6_advance 264 = .ok (.iconst 1, 1) := by decide +kernel
theorem dX6_advance_265 : decode cX6_advance 265 = .ok (.iadd, 1) := by decide +kernel
theorem dX6_advance_266 : decode cX6_advance 266 = .ok (.putfield 48, 3) := by decide +kernel
theorem dX6_advance_269 : decode cX6_advance 269 = .ok (.aload_n 0, 1) := by decide +kernel
theorem dX6_advance_270 : decode cX6_advance 270 = .ok (.aload_n 0, 1) := by decide +kernel
theorem dX6_advance_271 : decode cX6_advance 271 = .ok (.getfield 66, 3) := by decide +kernel
theorem dX6_advance_274 : decode cX6_advance 274 = .ok (.bipush 59, 2) := by decide +kernel
theorem dX6_advance_276 : decode cX6_advance 276 = .ok (.if_icmp .eq 39, 3) := by decide +kernel
theorem dX6_advance_279 : decode cX6_advance 279 = .ok (.aload_n 0, 1) := by decide +kernel
theorem dX6_advance_280 : decode cX6_advance 280 = .ok (.getfield 66, 3) := by decide +kernel
theorem dX6_advance_283 : decode cX6_advance 283 = .ok (.bipush 40, 2) := by decide +kernel
theorem dX6_advance_285 : decode cX6_advance 285 = .ok (.if_icmp .eq 30, 3) := by decide +kernel
theorem dX6_advance_288 : decode cX6_advance 288 = .ok (.aload_n 0, 1) := by decide +kernel
theorem dX6_advance_289 : decode cX6_advance 289 = .ok (.getfield 66, 3) := by decide +kernel
theorem dX6_advance_292 : decode cX6_advance 292 = .ok (.bipush 41, 2) := by decide +kernel
theorem dX6_advance_294 : decode cX6_advance 294 = .ok (.if_icmp .eq 21, 3) := by decide +kernel
theorem dX6_advance_297 : decode cX6_advance 297 = .ok (.aload_n 0, 1) := by decide +kernel
theorem dX6_advance_298 : decode cX6_advance 298 = .ok (.getfield 66, 3) := by decide +kernel
theorem dX6_advance_301 : decode cX6_advance 301 = .ok (.bipush 60, 2) := by decide +kernel
theorem dX6_advance_303 : decode cX6_advance 303 = .ok (.if_icmp .lt 16, 3) := by decide +kernel
theorem dX6_advance_306 : decode cX6_advance 306 = .ok (.aload_n 0, 1) := by decide +kernel
theorem dX6_advance_307 : decode cX6_advance 307 = .ok (.getfield 66, 3) := by decide +kernel
theorem dX6_advance_310 : decode cX6_advance 310 = .ok (.bipush 62, 2) := by decide +kernel
theorem dX6_advance_312 : decode cX6_advance 312 = .ok (.if_icmp .gt 7, 3) := by decide +kernel
theorem dX6_advance_315 : decode cX6_advance 315 = .ok (.iconst 3, 1) := by decide +kernel
theorem dX6_advance_316 : decode cX6_advance 316 = .ok (.goto 4, 3) := by decide +kernel
theorem dX6_advance_319 : decode cX6_advance 319 = .ok (.iconst 4, 1) := by decide +kernel
theorem dX6_advance_320 : decode cX6_advance 320 = .ok (.putfield 60, 3) := by decide +kernel
theorem dX6_advance_323 : decode cX6_advance 323 = .ok (.goto 43, 3) := by decide +kernel
theorem dX6_advance_326 : decode cX6_advance 326 = .ok (.iload_n 2, 1) := by decide +kernel
theorem dX6_advance_327 : decode cX6_advance 327 = .ok (.ifCond .ne 21, 3) := by decide +kernel
theorem dX6_advance_330 : decode cX6_advance 330 = .ok (.aload_n 0, 1) := by decide +kernel
theorem dX6_advance_331 : decode cX6_advance 331 = .ok (.iload_n 1, 1) := by decide +kernel
theorem dX6_advance_332 : decode cX6_advance 332 = .ok (.bipush 7, 2) := by decide +kernel
theorem dX6_advance_334 : decode cX6_advance 334 = .ok (.if_icmp .gt 7, 3) := by decide +kernel
theorem dX6_advance_337 : decode cX6_advance 337 = .ok (.iconst 1, 1) := by decide +kernel
theorem dX6_advance_338 : decode cX6_advance 338 = .ok (.goto 4, 3) := by decide +kernel
theorem dX6_advance_341 : decode cX6_advance 341 = .ok (.iconst 4, 1) := by decide +kernel
theorem dX6_advance_342 : decode cX6_advance 342 = .ok (.putfield 60, 3) := by decide +kernel
theorem dX6_advance_345 : decode cX6_advance 345 = .ok (.goto 21, 3) := by decide +kernel
theorem dX6_advance_348 : decode cX6_advance 348 = .ok (.aload_n 0, 1) := by decide +kernel
theorem dX6_advance_349 : decode cX6_advance 349 = .ok (.iload_n 1, 1) := by decide +kernel
theorem dX6_advance_350 : decode cX6_advance 350 = .ok (.ifCond .ne 12, 3) := by decide +kernel
theorem dX6_advance_353 : decode cX6_advance 353 = .ok (.iload_n 2, 1) := by decide +kernel
theorem dX6_advance_354 : decode cX6_advance 354 = .ok (.iconst 3, 1) := by decide +kernel
theorem dX6_advance_355 : decode cX6_advance 355 = .ok (.if_icmp .gt 7, 3) := by decide +kernel
theorem dX6_advance_358 : decode cX6_advance 358 = .ok (.iconst 2, 1) := by decide +kernel
theorem dX6_advance_359 : decode cX6_advance 359 = .ok (.goto 4, 3) := by decide +kernel
theorem dX6_advance_362 : decode cX6_advance 362 = .ok (.iconst 4, 1) := by decide +kernel
theorem dX6_advance_363 : decode cX6_advance 363 = .ok (.putfield 60, 3) := by decide +kernel
theorem dX6_advance_366 : decode cX6_advance 366 = .ok (.return_, 1) := by decide +kernel
theorem dX6_byteAt_0 : decode cX6_byteAt 0 = .ok (.iload_n 1, 1) := by decide +kernel
theorem dX6_byteAt_1 : decode cX6_byteAt 1 = .ok (.ifCond .lt 23, 3) := by decide +kernel
theorem dX6_byteAt_4 : decode cX6_byteAt 4 = .ok (.iload_n 1, 1) := by decide +kernel
theorem dX6_byteAt_5 : decode cX6_byteAt 5 = .ok (.sipush 940, 3) := by decide +kernel
theorem dX6_byteAt_8 : decode cX6_byteAt 8 = .ok (.if_icmp .ge 16, 3) := by decide +kernel
theorem dX6_byteAt_11 : decode cX6_byteAt 11 = .ok (.aload_n 0, 1) := by decide +kernel
theorem dX6_byteAt_12 : decode cX6_byteAt 12 = .ok (.getfield 11, 3) := by decide +kernel
theorem dX6_byteAt_15 : decode cX6_byteAt 15 = .ok (.iload_n 1, 1) := by decide +kernel
theorem dX6_byteAt_16 : decode cX6_byteAt 16 = .ok (.baload, 1) := by decide +kernel
theorem dX6_byteAt_17 : decode cX6_byteAt 17 = .ok (.sipush 255, 3) := by decide +kernel
theorem dX6_byteAt_20 : decode cX6_byteAt 20 = .ok (.iand, 1) := by decide +kernel
theorem dX6_byteAt_21 : decode cX6_byteAt 21 = .ok (.goto 4, 3) := by decide +kernel
theorem dX6_byteAt_24 : decode cX6_byteAt 24 = .ok (.iconst 0, 1) := by decide +kernel
theorem dX6_byteAt_25 : decode cX6_byteAt 25 = .ok (.ireturn, 1) := by decide +kernel
theorem dX6_canBeNameOrSoul_0 : decode cX6_canBeNameOrSoul 0 = .ok (.aload_n 0, 1) := by decide +kernel
theorem dX6_canBeNameOrSoul_1 : decode cX6_canBeNameOrSoul 1 = .ok (.getfield 60, 3) := by decide +kernel
theorem dX6_canBeNameOrSoul_4 : decode cX6_canBeNameOrSoul 4 = .ok (.iconst 1, 1) := by decide +kernel
theorem dX6_canBeNameOrSoul_5 : decode cX6_canBeNameOrSoul 5 = .ok (.if_icmp .eq 5, 3) := by decide +kernel
theorem dX6_canBeNameOrSoul_8 : decode cX6_canBeNameOrSoul 8 = .ok (.iconst 0, 1) := by decide +kernel
theorem dX6_canBeNameOrSoul_9 : decode cX6_canBeNameOrSoul 9 = .ok (.ireturn, 1) := by decide +kernel
theorem dX6_canBeNameOrSoul_10 : decode cX6_canBeNameOrSoul 10 = .ok (.iconst 0, 1) := by decide +kernel
theorem dX6_canBeNameOrSoul_11 : decode cX6_canBeNameOrSoul 11 = .ok (.istore_n 1, 1) := by decide +kernel
theorem dX6_canBeNameOrSoul_12 : decode cX6_canBeNameOrSoul 12 = .ok (.iload_n 1, 1) := by decide +kernel
theorem dX6_canBeNameOrSoul_13 : decode cX6_canBeNameOrSoul 13 = .ok (.aload_n 0, 1) := by decide +kernel
theorem dX6_canBeNameOrSoul_14 : decode cX6_canBeNameOrSoul 14 = .ok (.getfield 15, 3) := by decide +kernel
theorem dX6_canBeNameOrSoul_17 : decode cX6_canBeNameOrSoul 17 = .ok (.arraylength, 1) := by decide +kernel
theorem dX6_canBeNameOrSoul_18 : decode cX6_canBeNameOrSoul 18 = .ok (.if_icmp .ge 25, 3) := by decide +kernel
theorem dX6_canBeNameOrSoul_21 : decode cX6_canBeNameOrSoul 21 = .ok (.aload_n 0, 1) := by decide +kernel
theorem dX6_canBeNameOrSoul_22 : decode cX6_canBeNameOrSoul 22 = .ok (.getfield 15, 3) := by decide +kernel
theorem dX6_canBeNameOrSoul_25 : decode cX6_canBeNameOrSoul 25 = .ok (.iload_n 1, 1) := by decide +kernel
theorem dX6_canBeNameOrSoul_26 : decode cX6_canBeNameOrSoul 26 = .ok (.laload, 1) := by decide +kernel
theorem dX6_canBeNameOrSoul_27 : decode cX6_canBeNameOrSoul 27 = .ok (.aload_n 0, 1) := by decide +kernel
theorem dX6_canBeNameOrSoul_28 : decode cX6_canBeNameOrSoul 28 = .ok (.getfield 69, 3) := by decide +kernel
theorem dX6_canBeNameOrSoul_31 : decode cX6_canBeNameOrSoul 31 = .ok (.lcmp, 1) := by decide +kernel
theorem dX6_canBeNameOrSoul_32 : decode cX6_canBeNameOrSoul 32 = .ok (.ifCond .ne 5, 3) := by decide +kernel
theorem dX6_canBeNameOrSoul_35 : decode cX6_canBeNameOrSoul 35 = .ok (.iconst 0, 1) := by decide +kernel
theorem dX6_canBeNameOrSoul_36 : decode cX6_canBeNameOrSoul 36 = .ok (.ireturn, 1) := by decide +kernel
theorem dX6_canBeNameOrSoul_37 : decode cX6_canBeNameOrSoul 37 = .ok (.iinc 1 1, 3) := by decide +kernel
theorem dX6_canBeNameOrSoul_40 : decode cX6_canBeNameOrSoul 40 = .ok (.goto (-28), 3) := by decide +kernel
theorem dX6_canBeNameOrSoul_43 : decode cX6_canBeNameOrSoul 43 = .ok (.iconst 1, 1) := by decide +kernel
theorem dX6_canBeNameOrSoul_44 : decode cX6_canBeNameOrSoul 44 = .ok (.ireturn, 1) := by decide +kernel
theorem dX6_hasRoom_0 : decode cX6_hasRoom 0 = .ok (.aload_n 0, 1) := by decide +kernel
theorem dX6_hasRoom_1 : decode cX6_hasRoom 1 = .ok (.getfield 43, 3) := by decide +kernel
theorem dX6_hasRoom_4 : decode cX6_hasRoom 4 = .ok (.iload_n 1, 1) := by decide +kernel
theorem dX6_hasRoom_5 : decode cX6_hasRoom 5 = .ok (.iadd, 1) := by decide +kernel
theorem dX6_hasRoom_6 : decode cX6_hasRoom 6 = .ok (.sipush 940, 3) := by decide +kernel
theorem dX6_hasRoom_9 : decode cX6_hasRoom 9 = .ok (.if_icmp .gt 7, 3) := by decide +kernel
