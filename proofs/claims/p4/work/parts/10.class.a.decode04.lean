theorem dX8_passOnce_32 : decode cX8_passOnce 32 = .ok (.iload_n 1, 1) := by decide +kernel
theorem dX8_passOnce_33 : decode cX8_passOnce 33 = .ok (.iaload, 1) := by decide +kernel
theorem dX8_passOnce_34 : decode cX8_passOnce 34 = .ok (.iconst (-1), 1) := by decide +kernel
theorem dX8_passOnce_35 : decode cX8_passOnce 35 = .ok (.if_icmp .eq 12, 3) := by decide +kernel
theorem dX8_passOnce_38 : decode cX8_passOnce 38 = .ok (.aload_n 0, 1) := by decide +kernel
theorem dX8_passOnce_39 : decode cX8_passOnce 39 = .ok (.getfield 9, 3) := by decide +kernel
theorem dX8_passOnce_42 : decode cX8_passOnce 42 = .ok (.iconst 3, 1) := by decide +kernel
theorem dX8_passOnce_43 : decode cX8_passOnce 43 = .ok (.invokevirtual 92, 3) := by decide +kernel
theorem dX8_passOnce_46 : decode cX8_passOnce 46 = .ok (.ireturn, 1) := by decide +kernel
theorem dX8_passOnce_47 : decode cX8_passOnce 47 = .ok (.aload_n 0, 1) := by decide +kernel
theorem dX8_passOnce_48 : decode cX8_passOnce 48 = .ok (.getfield 9, 3) := by decide +kernel
theorem dX8_passOnce_51 : decode cX8_passOnce 51 = .ok (.iload_n 1, 1) := by decide +kernel
theorem dX8_passOnce_52 : decode cX8_passOnce 52 = .ok (.invokevirtual 138, 3) := by decide +kernel
theorem dX8_passOnce_55 : decode cX8_passOnce 55 = .ok (.ireturn, 1) := by decide +kernel
theorem dX8_read_0 : decode cX8_read 0 = .ok (.aload_n 0, 1) := by decide +kernel
theorem dX8_read_1 : decode cX8_read 1 = .ok (.getfield 15, 3) := by decide +kernel
theorem dX8_read_4 : decode cX8_read 4 = .ok (.invokevirtual 19, 3) := by decide +kernel
theorem dX8_read_7 : decode cX8_read 7 = .ok (.aload_n 0, 1) := by decide +kernel
theorem dX8_read_8 : decode cX8_read 8 = .ok (.getfield 9, 3) := by decide +kernel
theorem dX8_read_11 : decode cX8_read 11 = .ok (.sipush 900, 3) := by decide +kernel
theorem dX8_read_14 : decode cX8_read 14 = .ok (.invokevirtual 24, 3) := by decide +kernel
theorem dX8_read_17 : decode cX8_read 17 = .ok (.aload_n 0, 1) := by decide +kernel
theorem dX8_read_18 : decode cX8_read 18 = .ok (.iconst 0, 1) := by decide +kernel
theorem dX8_read_19 : decode cX8_read 19 = .ok (.putfield 30, 3) := by decide +kernel
theorem dX8_read_22 : decode cX8_read 22 = .ok (.aload_n 0, 1) := by decide +kernel
theorem dX8_read_23 : decode cX8_read 23 = .ok (.getfield 30, 3) := by decide +kernel
theorem dX8_read_26 : decode cX8_read 26 = .ok (.sipush 900, 3) := by decide +kernel
theorem dX8_read_29 : decode cX8_read 29 = .ok (.if_icmp .ge 47, 3) := by decide +kernel
theorem dX8_read_32 : decode cX8_read 32 = .ok (.aload_n 0, 1) := by decide +kernel
theorem dX8_read_33 : decode cX8_read 33 = .ok (.getfield 9, 3) := by decide +kernel
theorem dX8_read_36 : decode cX8_read 36 = .ok (.getfield 34, 3) := by decide +kernel
theorem dX8_read_39 : decode cX8_read 39 = .ok (.ifCond .eq 37, 3) := by decide +kernel
theorem dX8_read_42 : decode cX8_read 42 = .ok (.aload_n 0, 1) := by decide +kernel
theorem dX8_read_43 : decode cX8_read 43 = .ok (.invokevirtual 37, 3) := by decide +kernel
theorem dX8_read_46 : decode cX8_read 46 = .ok (.ifCond .eq 15, 3) := by decide +kernel
theorem dX8_read_49 : decode cX8_read 49 = .ok (.aload_n 0, 1) := by decide +kernel
theorem dX8_read_50 : decode cX8_read 50 = .ok (.getfield 9, 3) := by decide +kernel
theorem dX8_read_53 : decode cX8_read 53 = .ok (.bipush 59, 2) := by decide +kernel
theorem dX8_read_55 : decode cX8_read 55 = .ok (.invokevirtual 41, 3) := by decide +kernel
theorem dX8_read_58 : decode cX8_read 58 = .ok (.ifCond .ne 5, 3) := by decide +kernel
theorem dX8_read_61 : decode cX8_read 61 = .ok (.iconst 0, 1) := by decide +kernel
theorem dX8_read_62 : decode cX8_read 62 = .ok (.ireturn, 1) := by decide +kernel
theorem dX8_read_63 : decode cX8_read 63 = .ok (.aload_n 0, 1) := by decide +kernel
theorem dX8_read_64 : decode cX8_read 64 = .ok (.dup, 1) := by decide +kernel
theorem dX8_read_65 : decode cX8_read 65 = .ok (.getfield 30, 3) := by decide +kernel
theorem dX8_read_68 : decode cX8_read 68 = .ok (.iconst 1, 1) := by decide +kernel
theorem dX8_read_69 : decode cX8_read 69 = .ok (.iadd, 1) := by decide +kernel
theorem dX8_read_70 : decode cX8_read 70 = .ok (.putfield 30, 3) := by decide +kernel
theorem dX8_read_73 : decode cX8_read 73 = .ok (.goto (-51), 3) := by decide +kernel
theorem dX8_read_76 : decode cX8_read 76 = .ok (.iconst 1, 1) := by decide +kernel
theorem dX8_read_77 : decode cX8_read 77 = .ok (.ireturn, 1) := by decide +kernel
theorem dX8_readFirstName_0 : decode cX8_readFirstName 0 = .ok (.aload_n 0, 1) := by decide +kernel
theorem dX8_readFirstName_1 : decode cX8_readFirstName 1 = .ok (.getfield 15, 3) := by decide +kernel
theorem dX8_readFirstName_4 : decode cX8_readFirstName 4 = .ok (.aload_n 0, 1) := by decide +kernel
theorem dX8_readFirstName_5 : decode cX8_readFirstName 5 = .ok (.getfield 9, 3) := by decide +kernel
theorem dX8_readFirstName_8 : decode cX8_readFirstName 8 = .ok (.getfield 102, 3) := by decide +kernel
theorem dX8_readFirstName_11 : decode cX8_readFirstName 11 = .ok (.invokevirtual 131, 3) := by decide +kernel
theorem dX8_readFirstName_14 : decode cX8_readFirstName 14 = .ok (.istore_n 2, 1) := by decide +kernel
theorem dX8_readFirstName_15 : decode cX8_readFirstName 15 = .ok (.aload_n 0, 1) := by decide +kernel
theorem dX8_readFirstName_16 : decode cX8_readFirstName 16 = .ok (.getfield 9, 3) := by decide +kernel
theorem dX8_readFirstName_19 : decode cX8_readFirstName 19 = .ok (.getfield 34, 3) := by decide +kernel
theorem dX8_readFirstName_22 : decode cX8_readFirstName 22 = .ok (.iconst 1, 1) := by decide +kernel
theorem dX8_readFirstName_23 : decode cX8_readFirstName 23 = .ok (.if_icmp .ne 28, 3) := by decide +kernel
theorem dX8_readFirstName_26 : decode cX8_readFirstName 26 = .ok (.iload_n 2, 1) := by decide +kernel
theorem dX8_readFirstName_27 : decode cX8_readFirstName 27 = .ok (.iconst (-1), 1) := by decide +kernel
theorem dX8_readFirstName_28 : decode cX8_readFirstName 28 = .ok (.if_icmp .eq 23, 3) := by decide +kernel
theorem dX8_readFirstName_31 : decode cX8_readFirstName 31 = .ok (.aload_n 0, 1) := by decide +kernel
theorem dX8_readFirstName_32 : decode cX8_readFirstName 32 = .ok (.getfield 15, 3) := by decide +kernel
theorem dX8_readFirstName_35 : decode cX8_readFirstName 35 = .ok (.iload_n 2, 1) := by decide +kernel
theorem dX8_readFirstName_36 : decode cX8_readFirstName 36 = .ok (.invokevirtual 135, 3) := by decide +kernel
theorem dX8_readFirstName_39 : decode cX8_readFirstName 39 = .ok (.ifCond .eq 12, 3) := by decide +kernel
theorem dX8_readFirstName_42 : decode cX8_readFirstName 42 = .ok (.aload_n 0, 1) := by decide +kernel
theorem dX8_readFirstName_43 : decode cX8_readFirstName 43 = .ok (.getfield 9, 3) := by decide +kernel
theorem dX8_readFirstName_46 : decode cX8_readFirstName 46 = .ok (.iconst 3, 1) := by decide +kernel
theorem dX8_readFirstName_47 : decode cX8_readFirstName 47 = .ok (.invokevirtual 92, 3) := by decide +kernel
theorem dX8_readFirstName_50 : decode cX8_readFirstName 50 = .ok (.ireturn, 1) := by decide +kernel
theorem dX8_readFirstName_51 : decode cX8_readFirstName 51 = .ok (.aload_n 0, 1) := by decide +kernel
theorem dX8_readFirstName_52 : decode cX8_readFirstName 52 = .ok (.getfield 9, 3) := by decide +kernel
theorem dX8_readFirstName_55 : decode cX8_readFirstName 55 = .ok (.iload_n 2, 1) := by decide +kernel
theorem dX8_readFirstName_56 : decode cX8_readFirstName 56 = .ok (.invokevirtual 138, 3) := by decide +kernel
theorem dX8_readFirstName_59 : decode cX8_readFirstName 59 = .ok (.ifCond .eq 14, 3) := by decide +kernel
theorem dX8_readFirstName_62 : decode cX8_readFirstName 62 = .ok (.aload_n 0, 1) := by decide +kernel
theorem dX8_readFirstName_63 : decode cX8_readFirstName 63 = .ok (.getfield 15, 3) := by decide +kernel
theorem dX8_readFirstName_66 : decode cX8_readFirstName 66 = .ok (.iload_n 1, 1) := by decide +kernel
theorem dX8_readFirstName_67 : decode cX8_readFirstName 67 = .ok (.invokevirtual 141, 3) := by decide +kernel
theorem dX8_readFirstName_70 : decode cX8_readFirstName 70 = .ok (.ifCond .ne 5, 3) := by decide +kernel
theorem dX8_readFirstName_73 : decode cX8_readFirstName 73 = .ok (.iconst 0, 1) := by decide +kernel
theorem dX8_readFirstName_74 : decode cX8_readFirstName 74 = .ok (.ireturn, 1) := by decide +kernel
theorem dX8_readFirstName_75 : decode cX8_readFirstName 75 = .ok (.aload_n 0, 1) := by decide +kernel
theorem dX8_readFirstName_76 : decode cX8_readFirstName 76 = .ok (.getfield 15, 3) := by decide +kernel
theorem dX8_readFirstName_79 : decode cX8_readFirstName 79 = .ok (.getfield 144, 3) := by decide +kernel
theorem dX8_readFirstName_82 : decode cX8_readFirstName 82 = .ok (.iload_n 1, 1) := by decide +kernel
theorem dX8_readFirstName_83 : decode cX8_readFirstName 83 = .ok (.aload_n 0, 1) := by decide +kernel
theorem dX8_readFirstName_84 : decode cX8_readFirstName 84 = .ok (.getfield 9, 3) := by decide +kernel
theorem dX8_readFirstName_87 : decode cX8_readFirstName 87 = .ok (.getfield 113, 3) := by decide +kernel
theorem dX8_readFirstName_90 : decode cX8_readFirstName 90 = .ok (.iastore, 1) := by decide +kernel
theorem dX8_readFirstName_91 : decode cX8_readFirstName 91 = .ok (.iconst 1, 1) := by decide +kernel
theorem dX8_readFirstName_92 : decode cX8_readFirstName 92 = .ok (.ireturn, 1) := by decide +kernel
theorem dX8_readLine_0 : decode cX8_readLine 0 = .ok (.aload_n 0, 1) := by decide +kernel
theorem dX8_readLine_1 : decode cX8_readLine 1 = .ok (.getfield 9, 3) := by decide +kernel
theorem dX8_readLine_4 : decode cX8_readLine 4 = .ok (.ldc 45, 2) := by decide +kernel
theorem dX8_readLine_6 : decode cX8_readLine 6 = .ok (.invokevirtual 47, 3) := by decide +kernel
theorem dX8_readLine_9 : decode cX8_readLine 9 = .ok (.ifCond .eq 8, 3) := by decide +kernel
theorem dX8_readLine_12 : decode cX8_readLine 12 = .ok (.aload_n 0, 1) := by decide +kernel
theorem dX8_readLine_13 : decode cX8_readLine 13 = .ok (.invokevirtual 51, 3) := by decide +kernel
theorem dX8_readLine_16 : decode cX8_readLine 16 = .ok (.ireturn, 1) := by decide +kernel
theorem dX8_readLine_17 : decode cX8_readLine 17 = .ok (.aload_n 0, 1) := by decide +kernel
theorem dX8_readLine_18 : decode cX8_readLine 18 = .ok (.getfield 9, 3) := by decide +kernel
theorem dX8_readLine_21 : decode cX8_readLine 21 = .ok (.ldc 54, 2) := by decide +kernel
theorem dX8_readLine_23 : decode cX8_readLine 23 = .ok (.invokevirtual 47, 3) := by decide +kernel
theorem dX8_readLine_26 : decode cX8_readLine 26 = .ok (.ifCond .eq 36, 3) := by decide +kernel
theorem dX8_readLine_29 : decode cX8_readLine 29 = .ok (.aload_n 0, 1) := by decide +kernel
theorem dX8_readLine_30 : decode cX8_readLine 30 = .ok (.getfield 9, 3) := by decide +kernel
theorem dX8_readLine_33 : decode cX8_readLine 33 = .ok (.invokevirtual 56, 3) := by decide +kernel
theorem dX8_readLine_36 : decode cX8_readLine 36 = .ok (.ifCond .eq 24, 3) := by decide +kernel
theorem dX8_readLine_39 : decode cX8_readLine 39 = .ok (.aload_n 0, 1) := by decide +kernel
theorem dX8_readLine_40 : decode cX8_readLine 40 = .ok (.aload_n 0, 1) := by decide +kernel
theorem dX8_readLine_41 : decode cX8_readLine 41 = .ok (.getfield 15, 3) := by decide +kernel
theorem dX8_readLine_44 : decode cX8_readLine 44 = .ok (.getfield 59, 3) := by decide +kernel
theorem dX8_readLine_47 : decode cX8_readLine 47 = .ok (.iconst 0, 1) := by decide +kernel
theorem dX8_readLine_48 : decode cX8_readLine 48 = .ok (.bipush 99, 2) := by decide +kernel
theorem dX8_readLine_50 : decode cX8_readLine 50 = .ok (.invokevirtual 63, 3) := by decide +kernel
theorem dX8_readLine_53 : decode cX8_readLine 53 = .ok (.ifCond .eq 7, 3) := by decide +kernel
theorem dX8_readLine_56 : decode cX8_readLine 56 = .ok (.iconst 1, 1) := by decide +kernel
theorem dX8_readLine_57 : decode cX8_readLine 57 = .ok (.goto 4, 3) := by decide +kernel
theorem dX8_readLine_60 : decode cX8_readLine 60 = .ok (.iconst 0, 1) := by decide +kernel
theorem dX8_readLine_61 : decode cX8_readLine 61 = .ok (.ireturn, 1) := by decide +kernel
theorem dX8_readLine_62 : decode cX8_readLine 62 = .ok (.aload_n 0, 1) := by decide +kernel
theorem dX8_readLine_63 : decode cX8_readLine 63 = .ok (.getfield 9, 3) := by decide +kernel
theorem dX8_readLine_66 : decode cX8_readLine 66 = .ok (.ldc 67, 2) := by decide +kernel
theorem dX8_readLine_68 : decode cX8_readLine 68 = .ok (.invokevirtual 47, 3) := by decide +kernel
theorem dX8_readLine_71 : decode cX8_readLine 71 = .ok (.ifCond .eq 36, 3) := by decide +kernel
theorem dX8_readLine_74 : decode cX8_readLine 74 = .ok (.aload_n 0, 1) := by decide +kernel
theorem dX8_readLine_75 : decode cX8_readLine 75 = .ok (.getfield 9, 3) := by decide +kernel
theorem dX8_readLine_78 : decode cX8_readLine 78 = .ok (.invokevirtual 56, 3) := by decide +kernel
theorem dX8_readLine_81 : decode cX8_readLine 81 = .ok (.ifCond .eq 24, 3) := by decide +kernel
theorem dX8_readLine_84 : decode cX8_readLine 84 = .ok (.aload_n 0, 1) := by decide +kernel
theorem dX8_readLine_85 : decode cX8_readLine 85 = .ok (.aload_n 0, 1) := by decide +kernel
theorem dX8_readLine_86 : decode cX8_readLine 86 = .ok (.getfield 15, 3) := by decide +kernel
theorem dX8_readLine_89 : decode cX8_readLine 89 = .ok (.getfield 69, 3) := by decide +kernel
theorem dX8_readLine_92 : decode cX8_readLine 92 = .ok (.iconst 1, 1) := by decide +kernel
theorem dX8_readLine_93 : decode cX8_readLine 93 = .ok (.bipush 9, 2) := by decide +kernel
theorem dX8_readLine_95 : decode cX8_readLine 95 = .ok (.invokevirtual 63, 3) := by decide +kernel
theorem dX8_readLine_98 : decode cX8_readLine 98 = .ok (.ifCond .eq 7, 3) := by decide +kernel
theorem dX8_readLine_101 : decode cX8_readLine 101 = .ok (.iconst 1, 1) := by decide +kernel
theorem dX8_readLine_102 : decode cX8_readLine 102 = .ok (.goto 4, 3) := by decide +kernel
theorem dX8_readLine_105 : decode cX8_readLine 105 = .ok (.iconst 0, 1) := by decide +kernel
theorem dX8_readLine_106 : decode cX8_readLine 106 = .ok (.ireturn, 1) := by decide +kernel
theorem dX8_readLine_107 : decode cX8_readLine 107 = .ok (.aload_n 0, 1) := by decide +kernel
theorem dX8_readLine_108 : decode cX8_readLine 108 = .ok (.getfield 9, 3) := by decide +kernel
theorem dX8_readLine_111 : decode cX8_readLine 111 = .ok (.ldc 72, 2) := by decide +kernel
theorem dX8_readLine_113 : decode cX8_readLine 113 = .ok (.invokevirtual 47, 3) := by decide +kernel
theorem dX8_readLine_116 : decode cX8_readLine 116 = .ok (.ifCond .eq 8, 3) := by decide +kernel
theorem dX8_readLine_119 : decode cX8_readLine 119 = .ok (.aload_n 0, 1) := by decide +kernel
theorem dX8_readLine_120 : decode cX8_readLine 120 = .ok (.invokevirtual 74, 3) := by decide +kernel
theorem dX8_readLine_123 : decode cX8_readLine 123 = .ok (.ireturn, 1) := by decide +kernel
theorem dX8_readLine_124 : decode cX8_readLine 124 = .ok (.aload_n 0, 1) := by decide +kernel
theorem dX8_readLine_125 : decode cX8_readLine 125 = .ok (.getfield 9, 3) := by decide +kernel
theorem dX8_readLine_128 : decode cX8_readLine 128 = .ok (.ldc 77, 2) := by decide +kernel
theorem dX8_readLine_130 : decode cX8_readLine 130 = .ok (.invokevirtual 47, 3) := by decide +kernel
theorem dX8_readLine_133 : decode cX8_readLine 133 = .ok (.ifCond .eq 26, 3) := by decide +kernel
theorem dX8_readLine_136 : decode cX8_readLine 136 = .ok (.aload_n 0, 1) := by decide +kernel
theorem dX8_readLine_137 : decode cX8_readLine 137 = .ok (.getfield 9, 3) := by decide +kernel
theorem dX8_readLine_140 : decode cX8_readLine 140 = .ok (.invokevirtual 56, 3) := by decide +kernel
theorem dX8_readLine_143 : decode cX8_readLine 143 = .ok (.ifCond .eq 14, 3) := by decide +kernel
theorem dX8_readLine_146 : decode cX8_readLine 146 = .ok (.aload_n 0, 1) := by decide +kernel
theorem dX8_readLine_147 : decode cX8_readLine 147 = .ok (.invokevirtual 79, 3) := by decide +kernel
theorem dX8_readLine_150 : decode cX8_readLine 150 = .ok (.ifCond .eq 7, 3) := by decide +kernel
theorem dX8_readLine_153 : decode cX8_readLine 153 = .ok (.iconst 1, 1) := by decide +kernel
theorem dX8_readLine_154 : decode cX8_readLine 154 = .ok (.goto 4, 3) := by decide +kernel
theorem dX8_readLine_157 : decode cX8_readLine 157 = .ok (.iconst 0, 1) := by decide +kernel
theorem dX8_readLine_158 : decode cX8_readLine 158 = .ok (.ireturn, 1) := by decide +kernel
theorem dX8_readLine_159 : decode cX8_readLine 159 = .ok (.aload_n 0, 1) := by decide +kernel
theorem dX8_readLine_160 : decode cX8_readLine 160 = .ok (.getfield 9, 3) := by decide +kernel
theorem dX8_readLine_163 : decode cX8_readLine 163 = .ok (.ldc 82, 2) := by decide +kernel
theorem dX8_readLine_165 : decode cX8_readLine 165 = .ok (.invokevirtual 47, 3) := by decide +kernel
theorem dX8_readLine_168 : decode cX8_readLine 168 = .ok (.ifCond .eq 26, 3) := by decide +kernel
theorem dX8_readLine_171 : decode cX8_readLine 171 = .ok (.aload_n 0, 1) := by decide +kernel
theorem dX8_readLine_172 : decode cX8_readLine 172 = .ok (.getfield 9, 3) := by decide +kernel
theorem dX8_readLine_175 : decode cX8_readLine 175 = .ok (.invokevirtual 56, 3) := by decide +kernel
theorem dX8_readLine_178 : decode cX8_readLine 178 = .ok (.ifCond .eq 14, 3) := by decide +kernel
theorem dX8_readLine_181 : decode cX8_readLine 181 = .ok (.aload_n 0, 1) := by decide +kernel
theorem dX8_readLine_182 : decode cX8_readLine 182 = .ok (.invokevirtual 84, 3) := by decide +kernel
theorem dX8_readLine_185 : decode cX8_readLine 185 = .ok (.ifCond .eq 7, 3) := by decide +kernel
theorem dX8_readLine_188 : decode cX8_readLine 188 = .ok (.iconst 1, 1) := by decide +kernel
theorem dX8_readLine_189 : decode cX8_readLine 189 = .ok (.goto 4, 3) := by decide +kernel
theorem dX8_readLine_192 : decode cX8_readLine 192 = .ok (.iconst 0, 1) := by decide +kernel
theorem dX8_readLine_193 : decode cX8_readLine 193 = .ok (.ireturn, 1) := by decide +kernel
theorem dX8_readLine_194 : decode cX8_readLine 194 = .ok (.aload_n 0, 1) := by decide +kernel
theorem dX8_readLine_195 : decode cX8_readLine 195 = .ok (.getfield 9, 3) := by decide +kernel
theorem dX8_readLine_198 : decode cX8_readLine 198 = .ok (.ldc 87, 2) := by decide +kernel
theorem dX8_readLine_200 : decode cX8_readLine 200 = .ok (.invokevirtual 47, 3) := by decide +kernel
theorem dX8_readLine_203 : decode cX8_readLine 203 = .ok (.ifCond .eq 26, 3) := by decide +kernel
theorem dX8_readLine_206 : decode cX8_readLine 206 = .ok (.aload_n 0, 1) := by decide +kernel
theorem dX8_readLine_207 : decode cX8_readLine 207 = .ok (.getfield 9, 3) := by decide +kernel
theorem dX8_readLine_210 : decode cX8_readLine 210 = .ok (.invokevirtual 56, 3) := by decide +kernel
theorem dX8_readLine_213 : decode cX8_readLine 213 = .ok (.ifCond .eq 14, 3) := by decide +kernel
theorem dX8_readLine_216 : decode cX8_readLine 216 = .ok (.aload_n 0, 1) := by decide +kernel
theorem dX8_readLine_217 : decode cX8_readLine 217 = .ok (.invokevirtual 89, 3) := by decide +kernel
theorem dX8_readLine_220 : decode cX8_readLine 220 = .ok (.ifCond .eq 7, 3) := by decide +kernel
theorem dX8_readLine_223 : decode cX8_readLine 223 = .ok (.iconst 1, 1) := by decide +kernel
theorem dX8_readLine_224 : decode cX8_readLine 224 = .ok (.goto 4, 3) := by decide +kernel
theorem dX8_readLine_227 : decode cX8_readLine 227 = .ok (.iconst 0, 1) := by decide +kernel
theorem dX8_readLine_228 : decode cX8_readLine 228 = .ok (.ireturn, 1) := by decide +kernel
theorem dX8_readLine_229 : decode cX8_readLine 229 = .ok (.aload_n 0, 1) := by decide +kernel
theorem dX8_readLine_230 : decode cX8_readLine 230 = .ok (.getfield 9, 3) := by decide +kernel
theorem dX8_readLine_233 : decode cX8_readLine 233 = .ok (.iconst 1, 1) := by decide +kernel
theorem dX8_readLine_234 : decode cX8_readLine 234 = .ok (.invokevirtual 92, 3) := by decide +kernel
theorem dX8_readLine_237 : decode cX8_readLine 237 = .ok (.ireturn, 1) := by decide +kernel
theorem dX8_readNameLine_0 : decode cX8_readNameLine 0 = .ok (.aload_n 0, 1) := by decide +kernel
theorem dX8_readNameLine_1 : decode cX8_readNameLine 1 = .ok (.getfield 15, 3) := by decide +kernel
theorem dX8_readNameLine_4 : decode cX8_readNameLine 4 = .ok (.getfield 96, 3) := by decide +kernel
theorem dX8_readNameLine_7 : decode cX8_readNameLine 7 = .ok (.bipush 9, 2) := by decide +kernel
theorem dX8_readNameLine_9 : decode cX8_readNameLine 9 = .ok (.if_icmp .lt 12, 3) := by decide +kernel
theorem dX8_readNameLine_12 : decode cX8_readNameLine 12 = .ok (.aload_n 0, 1) := by decide +kernel
theorem dX8_readNameLine_13 : decode cX8_readNameLine 13 = .ok (.getfield 9, 3) := by decide +kernel
theorem dX8_readNameLine_16 : decode cX8_readNameLine 16 = .ok (.iconst 4, 1) := by decide +kernel
theorem dX8_readNameLine_17 : decode cX8_readNameLine 17 = .ok (.invokevirtual 92, 3) := by decide +kernel
theorem dX8_readNameLine_20 : decode cX8_readNameLine 20 = .ok (.ireturn, 1) := by decide +kernel
theorem dX8_readNameLine_21 : decode cX8_readNameLine 21 = .ok (.aload_n 0, 1) := by decide +kernel
theorem dX8_readNameLine_22 : decode cX8_readNameLine 22 = .ok (.getfield 9, 3) := by decide +kernel
theorem dX8_readNameLine_25 : decode cX8_readNameLine 25 = .ok (.invokevirtual 99, 3) := by decide +kernel
theorem dX8_readNameLine_28 : decode cX8_readNameLine 28 = .ok (.aload_n 0, 1) := by decide +kernel
theorem dX8_readNameLine_29 : decode cX8_readNameLine 29 = .ok (.getfield 9, 3) := by decide +kernel
theorem dX8_readNameLine_32 : decode cX8_readNameLine 32 = .ok (.getfield 102, 3) := by decide +kernel
theorem dX8_readNameLine_35 : decode cX8_readNameLine 35 = .ok (.lstore_n 1, 1) := by decide +kernel
theorem dX8_readNameLine_36 : decode cX8_readNameLine 36 = .ok (.aload_n 0, 1) := by decide +kernel
theorem dX8_readNameLine_37 : decode cX8_readNameLine 37 = .ok (.invokevirtual 106, 3) := by decide +kernel
theorem dX8_readNameLine_40 : decode cX8_readNameLine 40 = .ok (.ifCond .eq 16, 3) := by decide +kernel
theorem dX8_readNameLine_43 : decode cX8_readNameLine 43 = .ok (.aload_n 0, 1) := by decide +kernel
theorem dX8_readNameLine_44 : decode cX8_readNameLine 44 = .ok (.getfield 9, 3) := by decide +kernel
theorem dX8_readNameLine_47 : decode cX8_readNameLine 47 = .ok (.iconst 0, 1) := by decide +kernel
theorem dX8_readNameLine_48 : decode cX8_readNameLine 48 = .ok (.bipush 99, 2) := by decide +kernel
theorem dX8_readNameLine_50 : decode cX8_readNameLine 50 = .ok (.invokevirtual 109, 3) := by decide +kernel
theorem dX8_readNameLine_53 : decode cX8_readNameLine 53 = .ok (.ifCond .ne 5, 3) := by decide +kernel
theorem dX8_readNameLine_56 : decode cX8_readNameLine 56 = .ok (.iconst 0, 1) := by decide +kernel
theorem dX8_readNameLine_57 : decode cX8_readNameLine 57 = .ok (.ireturn, 1) := by decide +kernel
theorem dX8_readNameLine_58 : decode cX8_readNameLine 58 = .ok (.aload_n 0, 1) := by decide +kernel
theorem dX8_readNameLine_59 : decode cX8_readNameLine 59 = .ok (.getfield 15, 3) := by decide +kernel
theorem dX8_readNameLine_62 : decode cX8_readNameLine 62 = .ok (.lload_n 1, 1) := by decide +kernel
theorem dX8_readNameLine_63 : decode cX8_readNameLine 63 = .ok (.aload_n 0, 1) := by decide +kernel
theorem dX8_readNameLine_64 : decode cX8_readNameLine 64 = .ok (.getfield 9, 3) := by decide +kernel
theorem dX8_readNameLine_67 : decode cX8_readNameLine 67 = .ok (.getfield 113, 3) := by decide +kernel
theorem dX8_readNameLine_70 : decode cX8_readNameLine 70 = .ok (.invokevirtual 116, 3) := by decide +kernel
theorem dX8_readNameLine_73 : decode cX8_readNameLine 73 = .ok (.iconst 1, 1) := by decide +kernel
theorem dX8_readNameLine_74 : decode cX8_readNameLine 74 = .ok (.ireturn, 1) := by decide +kernel
theorem dX8_readOfName_0 : decode cX8_readOfName 0 = .ok (.aload_n 0, 1) := by decide +kernel
theorem dX8_readOfName_1 : decode cX8_readOfName 1 = .ok (.aload_n 0, 1) := by decide +kernel
theorem dX8_readOfName_2 : decode cX8_readOfName 2 = .ok (.getfield 15, 3) := by decide +kernel
theorem dX8_readOfName_5 : decode cX8_readOfName 5 = .ok (.aload_n 0, 1) := by decide +kernel
theorem dX8_readOfName_6 : decode cX8_readOfName 6 = .ok (.getfield 9, 3) := by decide +kernel
theorem dX8_readOfName_9 : decode cX8_readOfName 9 = .ok (.getfield 102, 3) := by decide +kernel
theorem dX8_readOfName_12 : decode cX8_readOfName 12 = .ok (.invokevirtual 131, 3) := by decide +kernel
theorem dX8_readOfName_15 : decode cX8_readOfName 15 = .ok (.aload_n 1, 1) := by decide +kernel
theorem dX8_readOfName_16 : decode cX8_readOfName 16 = .ok (.invokevirtual 147, 3) := by decide +kernel
theorem dX8_readOfName_19 : decode cX8_readOfName 19 = .ok (.ifCond .ne 5, 3) := by decide +kernel
theorem dX8_readOfName_22 : decode cX8_readOfName 22 = .ok (.iconst 0, 1) := by decide +kernel
theorem dX8_readOfName_23 : decode cX8_readOfName 23 = .ok (.ireturn, 1) := by decide +kernel
theorem dX8_readOfName_24 : decode cX8_readOfName 24 = .ok (.aload_n 0, 1) := by decide +kernel
theorem dX8_readOfName_25 : decode cX8_readOfName 25 = .ok (.getfield 9, 3) := by decide +kernel
theorem dX8_readOfName_28 : decode cX8_readOfName 28 = .ok (.getfield 113, 3) := by decide +kernel
theorem dX8_readOfName_31 : decode cX8_readOfName 31 = .ok (.istore 4, 2) := by decide +kernel
theorem dX8_readOfName_33 : decode cX8_readOfName 33 = .ok (.aload_n 0, 1) := by decide +kernel
theorem dX8_readOfName_34 : decode cX8_readOfName 34 = .ok (.getfield 9, 3) := by decide +kernel
theorem dX8_readOfName_37 : decode cX8_readOfName 37 = .ok (.iload_n 2, 1) := by decide +kernel
theorem dX8_readOfName_38 : decode cX8_readOfName 38 = .ok (.iload_n 3, 1) := by decide +kernel
theorem dX8_readOfName_39 : decode cX8_readOfName 39 = .ok (.invokevirtual 109, 3) := by decide +kernel
theorem dX8_readOfName_42 : decode cX8_readOfName 42 = .ok (.ifCond .eq 15, 3) := by decide +kernel
theorem dX8_readOfName_45 : decode cX8_readOfName 45 = .ok (.iload 4, 2) := by decide +kernel
theorem dX8_readOfName_47 : decode cX8_readOfName 47 = .ok (.ifCond .lt 10, 3) := by decide +kernel
theorem dX8_readOfName_50 : decode cX8_readOfName 50 = .ok (.iload 4, 2) := by decide +kernel
theorem dX8_readOfName_52 : decode cX8_readOfName 52 = .ok (.aload_n 1, 1) := by decide +kernel
theorem dX8_readOfName_53 : decode cX8_readOfName 53 = .ok (.arraylength, 1) := by decide +kernel
theorem dX8_readOfName_54 : decode cX8_readOfName 54 = .ok (.if_icmp .lt 5, 3) := by decide +kernel
theorem dX8_readOfName_57 : decode cX8_readOfName 57 = .ok (.iconst 0, 1) := by decide +kernel
theorem dX8_readOfName_58 : decode cX8_readOfName 58 = .ok (.ireturn, 1) := by decide +kernel
theorem dX8_readOfName_59 : decode cX8_readOfName 59 = .ok (.aload_n 1, 1) := by decide +kernel
theorem dX8_readOfName_60 : decode cX8_readOfName 60 = .ok (.iload 4, 2) := by decide +kernel
theorem dX8_readOfName_62 : decode cX8_readOfName 62 = .ok (.aload_n 0, 1) := by decide +kernel
theorem dX8_readOfName_63 : decode cX8_readOfName 63 = .ok (.getfield 9, 3) := by decide +kernel
theorem dX8_readOfName_66 : decode cX8_readOfName 66 = .ok (.getfield 113, 3) := by decide +kernel
theorem dX8_readOfName_69 : decode cX8_readOfName 69 = .ok (.iastore, 1) := by decide +kernel
theorem dX8_readOfName_70 : decode cX8_readOfName 70 = .ok (.iconst 1, 1) := by decide +kernel
theorem dX8_readOfName_71 : decode cX8_readOfName 71 = .ok (.ireturn, 1) := by decide +kernel
theorem dX8_readOld_0 : decode cX8_readOld 0 = .ok (.aload_n 0, 1) := by decide +kernel
theorem dX8_readOld_1 : decode cX8_readOld 1 = .ok (.aload_n 0, 1) := by decide +kernel
theorem dX8_readOld_2 : decode cX8_readOld 2 = .ok (.getfield 15, 3) := by decide +kernel
theorem dX8_readOld_5 : decode cX8_readOld 5 = .ok (.aload_n 0, 1) := by decide +kernel
theorem dX8_readOld_6 : decode cX8_readOld 6 = .ok (.getfield 9, 3) := by decide +kernel
theorem dX8_readOld_9 : decode cX8_readOld 9 = .ok (.getfield 102, 3) := by decide +kernel
theorem dX8_readOld_12 : decode cX8_readOld 12 = .ok (.invokevirtual 151, 3) := by decide +kernel
theorem dX8_readOld_15 : decode cX8_readOld 15 = .ok (.aload_n 0, 1) := by decide +kernel
theorem dX8_readOld_16 : decode cX8_readOld 16 = .ok (.getfield 15, 3) := by decide +kernel
theorem dX8_readOld_19 : decode cX8_readOld 19 = .ok (.getfield 156, 3) := by decide +kernel
theorem dX8_readOld_22 : decode cX8_readOld 22 = .ok (.invokevirtual 147, 3) := by decide +kernel
theorem dX8_readOld_25 : decode cX8_readOld 25 = .ok (.ifCond .ne 5, 3) := by decide +kernel
theorem dX8_readOld_28 : decode cX8_readOld 28 = .ok (.iconst 0, 1) := by decide +kernel
theorem dX8_readOld_29 : decode cX8_readOld 29 = .ok (.ireturn, 1) := by decide +kernel
theorem dX8_readOld_30 : decode cX8_readOld 30 = .ok (.aload_n 0, 1) := by decide +kernel
theorem dX8_readOld_31 : decode cX8_readOld 31 = .ok (.getfield 9, 3) := by decide +kernel
theorem dX8_readOld_34 : decode cX8_readOld 34 = .ok (.getfield 113, 3) := by decide +kernel
theorem dX8_readOld_37 : decode cX8_readOld 37 = .ok (.istore_n 1, 1) := by decide +kernel
theorem dX8_readOld_38 : decode cX8_readOld 38 = .ok (.aload_n 0, 1) := by decide +kernel
theorem dX8_readOld_39 : decode cX8_readOld 39 = .ok (.getfield 9, 3) := by decide +kernel
theorem dX8_readOld_42 : decode cX8_readOld 42 = .ok (.iconst 0, 1) := by decide +kernel
theorem dX8_readOld_43 : decode cX8_readOld 43 = .ok (.sipush 199, 3) := by decide +kernel
theorem dX8_readOld_46 : decode cX8_readOld 46 = .ok (.invokevirtual 109, 3) := by decide +kernel
theorem dX8_readOld_49 : decode cX8_readOld 49 = .ok (.ifCond .eq 14, 3) := by decide +kernel
theorem dX8_readOld_52 : decode cX8_readOld 52 = .ok (.aload_n 0, 1) := by decide +kernel
theorem dX8_readOld_53 : decode cX8_readOld 53 = .ok (.getfield 15, 3) := by decide +kernel
theorem dX8_readOld_56 : decode cX8_readOld 56 = .ok (.iload_n 1, 1) := by decide +kernel
theorem dX8_readOld_57 : decode cX8_readOld 57 = .ok (.invokevirtual 141, 3) := by decide +kernel
theorem dX8_readOld_60 : decode cX8_readOld 60 = .ok (.ifCond .ne 5, 3) := by decide +kernel
theorem dX8_readOld_63 : decode cX8_readOld 63 = .ok (.iconst 0, 1) := by decide +kernel
theorem dX8_readOld_64 : decode cX8_readOld 64 = .ok (.ireturn, 1) := by decide +kernel
theorem dX8_readOld_65 : decode cX8_readOld 65 = .ok (.aload_n 0, 1) := by decide +kernel
theorem dX8_readOld_66 : decode cX8_readOld 66 = .ok (.getfield 15, 3) := by decide +kernel
theorem dX8_readOld_69 : decode cX8_readOld 69 = .ok (.getfield 156, 3) := by decide +kernel
theorem dX8_readOld_72 : decode cX8_readOld 72 = .ok (.iload_n 1, 1) := by decide +kernel
theorem dX8_readOld_73 : decode cX8_readOld 73 = .ok (.aload_n 0, 1) := by decide +kernel
theorem dX8_readOld_74 : decode cX8_readOld 74 = .ok (.getfield 9, 3) := by decide +kernel
theorem dX8_readOld_77 : decode cX8_readOld 77 = .ok (.getfield 113, 3) := by decide +kernel
theorem dX8_readOld_80 : decode cX8_readOld 80 = .ok (.iastore, 1) := by decide +kernel
theorem dX8_readOld_81 : decode cX8_readOld 81 = .ok (.iconst 1, 1) := by decide +kernel
theorem dX8_readOld_82 : decode cX8_readOld 82 = .ok (.ireturn, 1) := by decide +kernel
theorem dX8_readSoulLine_0 : decode cX8_readSoulLine 0 = .ok (.aload_n 0, 1) := by decide +kernel
theorem dX8_readSoulLine_1 : decode cX8_readSoulLine 1 = .ok (.getfield 15, 3) := by decide +kernel
theorem dX8_readSoulLine_4 : decode cX8_readSoulLine 4 = .ok (.getfield 120, 3) := by decide +kernel
theorem dX8_readSoulLine_7 : decode cX8_readSoulLine 7 = .ok (.bipush 9, 2) := by decide +kernel
theorem dX8_readSoulLine_9 : decode cX8_readSoulLine 9 = .ok (.if_icmp .lt 12, 3) := by decide +kernel
theorem dX8_readSoulLine_12 : decode cX8_readSoulLine 12 = .ok (.aload_n 0, 1) := by decide +kernel
theorem dX8_readSoulLine_13 : decode cX8_readSoulLine 13 = .ok (.getfield 9, 3) := by decide +kernel
theorem dX8_readSoulLine_16 : decode cX8_readSoulLine 16 = .ok (.iconst 4, 1) := by decide +kernel
theorem dX8_readSoulLine_17 : decode cX8_readSoulLine 17 = .ok (.invokevirtual 92, 3) := by decide +kernel
theorem dX8_readSoulLine_20 : decode cX8_readSoulLine 20 = .ok (.ireturn, 1) := by decide +kernel
theorem dX8_readSoulLine_21 : decode cX8_readSoulLine 21 = .ok (.aload_n 0, 1) := by decide +kernel
theorem dX8_readSoulLine_22 : decode cX8_readSoulLine 22 = .ok (.getfield 9, 3) := by decide +kernel
theorem dX8_readSoulLine_25 : decode cX8_readSoulLine 25 = .ok (.invokevirtual 99, 3) := by decide +kernel
theorem dX8_readSoulLine_28 : decode cX8_readSoulLine 28 = .ok (.aload_n 0, 1) := by decide +kernel
theorem dX8_readSoulLine_29 : decode cX8_readSoulLine 29 = .ok (.getfield 9, 3) := by decide +kernel
theorem dX8_readSoulLine_32 : decode cX8_readSoulLine 32 = .ok (.getfield 102, 3) := by decide +kernel
theorem dX8_readSoulLine_35 : decode cX8_readSoulLine 35 = .ok (.lstore_n 1, 1) := by decide +kernel
theorem dX8_readSoulLine_36 : decode cX8_readSoulLine 36 = .ok (.aload_n 0, 1) := by decide +kernel
theorem dX8_readSoulLine_37 : decode cX8_readSoulLine 37 = .ok (.invokevirtual 106, 3) := by decide +kernel
theorem dX8_readSoulLine_40 : decode cX8_readSoulLine 40 = .ok (.ifCond .eq 17, 3) := by decide +kernel
theorem dX8_readSoulLine_43 : decode cX8_readSoulLine 43 = .ok (.aload_n 0, 1) := by decide +kernel
theorem dX8_readSoulLine_44 : decode cX8_readSoulLine 44 = .ok (.getfield 9, 3) := by decide +kernel
theorem dX8_readSoulLine_47 : decode cX8_readSoulLine 47 = .ok (.iconst 0, 1) := by decide +kernel
theorem dX8_readSoulLine_48 : decode cX8_readSoulLine 48 = .ok (.sipush 999, 3) := by decide +kernel
theorem dX8_readSoulLine_51 : decode cX8_readSoulLine 51 = .ok (.invokevirtual 109, 3) := by decide +kernel
theorem dX8_readSoulLine_54 : decode cX8_readSoulLine 54 = .ok (.ifCond .ne 5, 3) := by decide +kernel
theorem dX8_readSoulLine_57 : decode cX8_readSoulLine 57 = .ok (.iconst 0, 1) := by decide +kernel
theorem dX8_readSoulLine_58 : decode cX8_readSoulLine 58 = .ok (.ireturn, 1) := by decide +kernel
theorem dX8_readSoulLine_59 : decode cX8_readSoulLine 59 = .ok (.aload_n 0, 1) := by decide +kernel
theorem dX8_readSoulLine_60 : decode cX8_readSoulLine 60 = .ok (.getfield 15, 3) := by decide +kernel
theorem dX8_readSoulLine_63 : decode cX8_readSoulLine 63 = .ok (.lload_n 1, 1) := by decide +kernel
theorem dX8_readSoulLine_64 : decode cX8_readSoulLine 64 = .ok (.aload_n 0, 1) := by decide +kernel
theorem dX8_readSoulLine_65 : decode cX8_readSoulLine 65 = .ok (.getfield 9, 3) := by decide +kernel
theorem dX8_readSoulLine_68 : decode cX8_readSoulLine 68 = .ok (.getfield 113, 3) := by decide +kernel
theorem dX8_readSoulLine_71 : decode cX8_readSoulLine 71 = .ok (.invokevirtual 123, 3) := by decide +kernel
theorem dX8_readSoulLine_74 : decode cX8_readSoulLine 74 = .ok (.aload_n 0, 1) := by decide +kernel
theorem dX8_readSoulLine_75 : decode cX8_readSoulLine 75 = .ok (.getfield 9, 3) := by decide +kernel
theorem dX8_readSoulLine_78 : decode cX8_readSoulLine 78 = .ok (.ldc 126, 2) := by decide +kernel
theorem dX8_readSoulLine_80 : decode cX8_readSoulLine 80 = .ok (.invokevirtual 47, 3) := by decide +kernel
theorem dX8_readSoulLine_83 : decode cX8_readSoulLine 83 = .ok (.ifCond .ne 5, 3) := by decide +kernel
theorem dX8_readSoulLine_86 : decode cX8_readSoulLine 86 = .ok (.iconst 1, 1) := by decide +kernel
theorem dX8_readSoulLine_87 : decode cX8_readSoulLine 87 = .ok (.ireturn, 1) := by decide +kernel
theorem dX8_readSoulLine_88 : decode cX8_readSoulLine 88 = .ok (.aload_n 0, 1) := by decide +kernel
theorem dX8_readSoulLine_89 : decode cX8_readSoulLine 89 = .ok (.getfield 9, 3) := by decide +kernel
theorem dX8_readSoulLine_92 : decode cX8_readSoulLine 92 = .ok (.invokevirtual 99, 3) := by decide +kernel
theorem dX8_readSoulLine_95 : decode cX8_readSoulLine 95 = .ok (.aload_n 0, 1) := by decide +kernel
theorem dX8_readSoulLine_96 : decode cX8_readSoulLine 96 = .ok (.aload_n 0, 1) := by decide +kernel
theorem dX8_readSoulLine_97 : decode cX8_readSoulLine 97 = .ok (.getfield 15, 3) := by decide +kernel
theorem dX8_readSoulLine_100 : decode cX8_readSoulLine 100 = .ok (.getfield 120, 3) := by decide +kernel
theorem dX8_readSoulLine_103 : decode cX8_readSoulLine 103 = .ok (.iconst 1, 1) := by decide +kernel
theorem dX8_readSoulLine_104 : decode cX8_readSoulLine 104 = .ok (.isub, 1) := by decide +kernel
theorem dX8_readSoulLine_105 : decode cX8_readSoulLine 105 = .ok (.invokevirtual 128, 3) := by decide +kernel
theorem dX8_readSoulLine_108 : decode cX8_readSoulLine 108 = .ok (.ireturn, 1) := by decide +kernel
theorem dX8_readWish_0 : decode cX8_readWish 0 = .ok (.aload_n 0, 1) := by decide +kernel
theorem dX8_readWish_1 : decode cX8_readWish 1 = .ok (.aload_n 0, 1) := by decide +kernel
theorem dX8_readWish_2 : decode cX8_readWish 2 = .ok (.getfield 15, 3) := by decide +kernel
theorem dX8_readWish_5 : decode cX8_readWish 5 = .ok (.aload_n 0, 1) := by decide +kernel
theorem dX8_readWish_6 : decode cX8_readWish 6 = .ok (.getfield 9, 3) := by decide +kernel
theorem dX8_readWish_9 : decode cX8_readWish 9 = .ok (.getfield 102, 3) := by decide +kernel
theorem dX8_readWish_12 : decode cX8_readWish 12 = .ok (.invokevirtual 151, 3) := by decide +kernel
theorem dX8_readWish_15 : decode cX8_readWish 15 = .ok (.aload_n 0, 1) := by decide +kernel
theorem dX8_readWish_16 : decode cX8_readWish 16 = .ok (.getfield 15, 3) := by decide +kernel
theorem dX8_readWish_19 : decode cX8_readWish 19 = .ok (.getfield 154, 3) := by decide +kernel
theorem dX8_readWish_22 : decode cX8_readWish 22 = .ok (.invokevirtual 147, 3) := by decide +kernel
theorem dX8_readWish_25 : decode cX8_readWish 25 = .ok (.ifCond .ne 5, 3) := by decide +kernel
theorem dX8_readWish_28 : decode cX8_readWish 28 = .ok (.iconst 0, 1) := by decide +kernel
theorem dX8_readWish_29 : decode cX8_readWish 29 = .ok (.ireturn, 1) := by decide +kernel
theorem dX8_readWish_30 : decode cX8_readWish 30 = .ok (.aload_n 0, 1) := by decide +kernel
theorem dX8_readWish_31 : decode cX8_readWish 31 = .ok (.getfield 9, 3) := by decide +kernel
theorem dX8_readWish_34 : decode cX8_readWish 34 = .ok (.getfield 113, 3) := by decide +kernel
theorem dX8_readWish_37 : decode cX8_readWish 37 = .ok (.istore_n 1, 1) := by decide +kernel
theorem dX8_readWish_38 : decode cX8_readWish 38 = .ok (.aload_n 0, 1) := by decide +kernel
theorem dX8_readWish_39 : decode cX8_readWish 39 = .ok (.getfield 9, 3) := by decide +kernel
theorem dX8_readWish_42 : decode cX8_readWish 42 = .ok (.aload_n 0, 1) := by decide +kernel
theorem dX8_readWish_43 : decode cX8_readWish 43 = .ok (.getfield 15, 3) := by decide +kernel
