theorem dX12_holderOf_0 : decode cX12_holderOf 0 = .ok (.iconst 0, 1) := by decide +kernel
theorem dX12_holderOf_1 : decode cX12_holderOf 1 = .ok (.istore_n 2, 1) := by decide +kernel
theorem dX12_holderOf_2 : decode cX12_holderOf 2 = .ok (.iload_n 2, 1) := by decide +kernel
theorem dX12_holderOf_3 : decode cX12_holderOf 3 = .ok (.aload_n 0, 1) := by decide +kernel
theorem dX12_holderOf_4 : decode cX12_holderOf 4 = .ok (.getfield 33, 3) := by decide +kernel
theorem dX12_holderOf_7 : decode cX12_holderOf 7 = .ok (.iconst 1, 1) := by decide +kernel
theorem dX12_holderOf_8 : decode cX12_holderOf 8 = .ok (.iaload, 1) := by decide +kernel
theorem dX12_holderOf_9 : decode cX12_holderOf 9 = .ok (.if_icmp .ge 27, 3) := by decide +kernel
theorem dX12_holderOf_12 : decode cX12_holderOf 12 = .ok (.aload_n 0, 1) := by decide +kernel
theorem dX12_holderOf_13 : decode cX12_holderOf 13 = .ok (.getfield 33, 3) := by decide +kernel
theorem dX12_holderOf_16 : decode cX12_holderOf 16 = .ok (.sipush 161, 3) := by decide +kernel
theorem dX12_holderOf_19 : decode cX12_holderOf 19 = .ok (.iload_n 2, 1) := by decide +kernel
theorem dX12_holderOf_20 : decode cX12_holderOf 20 = .ok (.iadd, 1) := by decide +kernel
theorem dX12_holderOf_21 : decode cX12_holderOf 21 = .ok (.iaload, 1) := by decide +kernel
theorem dX12_holderOf_22 : decode cX12_holderOf 22 = .ok (.iload_n 1, 1) := by decide +kernel
theorem dX12_holderOf_23 : decode cX12_holderOf 23 = .ok (.iconst 1, 1) := by decide +kernel
theorem dX12_holderOf_24 : decode cX12_holderOf 24 = .ok (.iadd, 1) := by decide +kernel
theorem dX12_holderOf_25 : decode cX12_holderOf 25 = .ok (.if_icmp .ne 5, 3) := by decide +kernel
theorem dX12_holderOf_28 : decode cX12_holderOf 28 = .ok (.iload_n 2, 1) := by decide +kernel
theorem dX12_holderOf_29 : decode cX12_holderOf 29 = .ok (.ireturn, 1) := by decide +kernel
theorem dX12_holderOf_30 : decode cX12_holderOf 30 = .ok (.iinc 2 1, 3) := by decide +kernel
theorem dX12_holderOf_33 : decode cX12_holderOf 33 = .ok (.goto (-31), 3) := by decide +kernel
theorem dX12_holderOf_36 : decode cX12_holderOf 36 = .ok (.iconst (-1), 1) := by decide +kernel
theorem dX12_holderOf_37 : decode cX12_holderOf 37 = .ok (.ireturn, 1) := by decide +kernel
theorem dX12_howLong_0 : decode cX12_howLong 0 = .ok (.aload_n 0, 1) := by decide +kernel
theorem dX12_howLong_1 : decode cX12_howLong 1 = .ok (.iconst 0, 1) := by decide +kernel
theorem dX12_howLong_2 : decode cX12_howLong 2 = .ok (.putfield 1, 3) := by decide +kernel
theorem dX12_howLong_5 : decode cX12_howLong 5 = .ok (.aload_n 0, 1) := by decide +kernel
theorem dX12_howLong_6 : decode cX12_howLong 6 = .ok (.iload_n 1, 1) := by decide +kernel
theorem dX12_howLong_7 : decode cX12_howLong 7 = .ok (.invokevirtual 236, 3) := by decide +kernel
theorem dX12_howLong_10 : decode cX12_howLong 10 = .ok (.ifCond .eq 20, 3) := by decide +kernel
theorem dX12_howLong_13 : decode cX12_howLong 13 = .ok (.aload_n 0, 1) := by decide +kernel
theorem dX12_howLong_14 : decode cX12_howLong 14 = .ok (.iload_n 2, 1) := by decide +kernel
theorem dX12_howLong_15 : decode cX12_howLong 15 = .ok (.invokevirtual 246, 3) := by decide +kernel
theorem dX12_howLong_18 : decode cX12_howLong 18 = .ok (.ifCond .eq 12, 3) := by decide +kernel
theorem dX12_howLong_21 : decode cX12_howLong 21 = .ok (.aload_n 0, 1) := by decide +kernel
theorem dX12_howLong_22 : decode cX12_howLong 22 = .ok (.iload_n 1, 1) := by decide +kernel
theorem dX12_howLong_23 : decode cX12_howLong 23 = .ok (.iload_n 2, 1) := by decide +kernel
theorem dX12_howLong_24 : decode cX12_howLong 24 = .ok (.invokevirtual 335, 3) := by decide +kernel
theorem dX12_howLong_27 : decode cX12_howLong 27 = .ok (.goto 4, 3) := by decide +kernel
theorem dX12_howLong_30 : decode cX12_howLong 30 = .ok (.iconst (-1), 1) := by decide +kernel
theorem dX12_howLong_31 : decode cX12_howLong 31 = .ok (.ireturn, 1) := by decide +kernel
theorem dX12_image_0 : decode cX12_image 0 = .ok (.aload_n 0, 1) := by decide +kernel
theorem dX12_image_1 : decode cX12_image 1 = .ok (.iconst 0, 1) := by decide +kernel
theorem dX12_image_2 : decode cX12_image 2 = .ok (.putfield 1, 3) := by decide +kernel
theorem dX12_image_5 : decode cX12_image 5 = .ok (.iload_n 1, 1) := by decide +kernel
theorem dX12_image_6 : decode cX12_image 6 = .ok (.iconst 0, 1) := by decide +kernel
theorem dX12_image_7 : decode cX12_image 7 = .ok (.iconst 1, 1) := by decide +kernel
theorem dX12_image_8 : decode cX12_image 8 = .ok (.invokestatic 177, 3) := by decide +kernel
theorem dX12_image_11 : decode cX12_image 11 = .ok (.ifCond .ne 5, 3) := by decide +kernel
theorem dX12_image_14 : decode cX12_image 14 = .ok (.iconst 0, 1) := by decide +kernel
theorem dX12_image_15 : decode cX12_image 15 = .ok (.ireturn, 1) := by decide +kernel
theorem dX12_image_16 : decode cX12_image 16 = .ok (.iconst 0, 1) := by decide +kernel
theorem dX12_image_17 : decode cX12_image 17 = .ok (.istore_n 2, 1) := by decide +kernel
theorem dX12_image_18 : decode cX12_image 18 = .ok (.iload_n 2, 1) := by decide +kernel
theorem dX12_image_19 : decode cX12_image 19 = .ok (.sipush 2187, 3) := by decide +kernel
theorem dX12_image_22 : decode cX12_image 22 = .ok (.if_icmp .ge 27, 3) := by decide +kernel
theorem dX12_image_25 : decode cX12_image 25 = .ok (.aload_n 0, 1) := by decide +kernel
theorem dX12_image_26 : decode cX12_image 26 = .ok (.getfield 72, 3) := by decide +kernel
theorem dX12_image_29 : decode cX12_image 29 = .ok (.sipush 2187, 3) := by decide +kernel
theorem dX12_image_32 : decode cX12_image 32 = .ok (.iload_n 1, 1) := by decide +kernel
theorem dX12_image_33 : decode cX12_image 33 = .ok (.imul, 1) := by decide +kernel
theorem dX12_image_34 : decode cX12_image 34 = .ok (.iload_n 2, 1) := by decide +kernel
theorem dX12_image_35 : decode cX12_image 35 = .ok (.iadd, 1) := by decide +kernel
theorem dX12_image_36 : decode cX12_image 36 = .ok (.aload_n 0, 1) := by decide +kernel
theorem dX12_image_37 : decode cX12_image 37 = .ok (.getfield 33, 3) := by decide +kernel
theorem dX12_image_40 : decode cX12_image 40 = .ok (.iload_n 2, 1) := by decide +kernel
theorem dX12_image_41 : decode cX12_image 41 = .ok (.iaload, 1) := by decide +kernel
theorem dX12_image_42 : decode cX12_image 42 = .ok (.iastore, 1) := by decide +kernel
theorem dX12_image_43 : decode cX12_image 43 = .ok (.iinc 2 1, 3) := by decide +kernel
theorem dX12_image_46 : decode cX12_image 46 = .ok (.goto (-28), 3) := by decide +kernel
theorem dX12_image_49 : decode cX12_image 49 = .ok (.iconst 0, 1) := by decide +kernel
theorem dX12_image_50 : decode cX12_image 50 = .ok (.istore_n 2, 1) := by decide +kernel
theorem dX12_image_51 : decode cX12_image 51 = .ok (.iload_n 2, 1) := by decide +kernel
theorem dX12_image_52 : decode cX12_image 52 = .ok (.bipush 18, 2) := by decide +kernel
theorem dX12_image_54 : decode cX12_image 54 = .ok (.if_icmp .ge 26, 3) := by decide +kernel
theorem dX12_image_57 : decode cX12_image 57 = .ok (.aload_n 0, 1) := by decide +kernel
theorem dX12_image_58 : decode cX12_image 58 = .ok (.getfield 75, 3) := by decide +kernel
theorem dX12_image_61 : decode cX12_image 61 = .ok (.bipush 18, 2) := by decide +kernel
theorem dX12_image_63 : decode cX12_image 63 = .ok (.iload_n 1, 1) := by decide +kernel
theorem dX12_image_64 : decode cX12_image 64 = .ok (.imul, 1) := by decide +kernel
theorem dX12_image_65 : decode cX12_image 65 = .ok (.iload_n 2, 1) := by decide +kernel
theorem dX12_image_66 : decode cX12_image 66 = .ok (.iadd, 1) := by decide +kernel
theorem dX12_image_67 : decode cX12_image 67 = .ok (.aload_n 0, 1) := by decide +kernel
theorem dX12_image_68 : decode cX12_image 68 = .ok (.getfield 43, 3) := by decide +kernel
theorem dX12_image_71 : decode cX12_image 71 = .ok (.iload_n 2, 1) := by decide +kernel
theorem dX12_image_72 : decode cX12_image 72 = .ok (.laload, 1) := by decide +kernel
theorem dX12_image_73 : decode cX12_image 73 = .ok (.lastore, 1) := by decide +kernel
theorem dX12_image_74 : decode cX12_image 74 = .ok (.iinc 2 1, 3) := by decide +kernel
theorem dX12_image_77 : decode cX12_image 77 = .ok (.goto (-26), 3) := by decide +kernel
theorem dX12_image_80 : decode cX12_image 80 = .ok (.aload_n 0, 1) := by decide +kernel
theorem dX12_image_81 : decode cX12_image 81 = .ok (.getfield 78, 3) := by decide +kernel
theorem dX12_image_84 : decode cX12_image 84 = .ok (.iload_n 1, 1) := by decide +kernel
theorem dX12_image_85 : decode cX12_image 85 = .ok (.iconst 1, 1) := by decide +kernel
theorem dX12_image_86 : decode cX12_image 86 = .ok (.bastore, 1) := by decide +kernel
theorem dX12_image_87 : decode cX12_image 87 = .ok (.iconst 1, 1) := by decide +kernel
theorem dX12_image_88 : decode cX12_image 88 = .ok (.ireturn, 1) := by decide +kernel
theorem dX12_isDead_0 : decode cX12_isDead 0 = .ok (.aload_n 0, 1) := by decide +kernel
theorem dX12_isDead_1 : decode cX12_isDead 1 = .ok (.getfield 33, 3) := by decide +kernel
theorem dX12_isDead_4 : decode cX12_isDead 4 = .ok (.sipush 147, 3) := by decide +kernel
theorem dX12_isDead_7 : decode cX12_isDead 7 = .ok (.iaload, 1) := by decide +kernel
theorem dX12_isDead_8 : decode cX12_isDead 8 = .ok (.iload_n 1, 1) := by decide +kernel
theorem dX12_isDead_9 : decode cX12_isDead 9 = .ok (.invokestatic 215, 3) := by decide +kernel
theorem dX12_isDead_12 : decode cX12_isDead 12 = .ok (.ireturn, 1) := by decide +kernel
theorem dX12_isDigit_0 : decode cX12_isDigit 0 = .ok (.iload_n 0, 1) := by decide +kernel
theorem dX12_isDigit_1 : decode cX12_isDigit 1 = .ok (.bipush 48, 2) := by decide +kernel
theorem dX12_isDigit_3 : decode cX12_isDigit 3 = .ok (.if_icmp .lt 13, 3) := by decide +kernel
theorem dX12_isDigit_6 : decode cX12_isDigit 6 = .ok (.iload_n 0, 1) := by decide +kernel
theorem dX12_isDigit_7 : decode cX12_isDigit 7 = .ok (.bipush 57, 2) := by decide +kernel
theorem dX12_isDigit_9 : decode cX12_isDigit 9 = .ok (.if_icmp .gt 7, 3) := by decide +kernel
theorem dX12_isDigit_12 : decode cX12_isDigit 12 = .ok (.iconst 1, 1) := by decide +kernel
theorem dX12_isDigit_13 : decode cX12_isDigit 13 = .ok (.goto 4, 3) := by decide +kernel
theorem dX12_isDigit_16 : decode cX12_isDigit 16 = .ok (.iconst 0, 1) := by decide +kernel
theorem dX12_isDigit_17 : decode cX12_isDigit 17 = .ok (.ireturn, 1) := by decide +kernel
theorem dX12_isIn_0 : decode cX12_isIn 0 = .ok (.iload_n 0, 1) := by decide +kernel
theorem dX12_isIn_1 : decode cX12_isIn 1 = .ok (.iload_n 1, 1) := by decide +kernel
theorem dX12_isIn_2 : decode cX12_isIn 2 = .ok (.if_icmp .lt 12, 3) := by decide +kernel
theorem dX12_isIn_5 : decode cX12_isIn 5 = .ok (.iload_n 0, 1) := by decide +kernel
theorem dX12_isIn_6 : decode cX12_isIn 6 = .ok (.iload_n 2, 1) := by decide +kernel
theorem dX12_isIn_7 : decode cX12_isIn 7 = .ok (.if_icmp .gt 7, 3) := by decide +kernel
theorem dX12_isIn_10 : decode cX12_isIn 10 = .ok (.iconst 1, 1) := by decide +kernel
theorem dX12_isIn_11 : decode cX12_isIn 11 = .ok (.goto 4, 3) := by decide +kernel
theorem dX12_isIn_14 : decode cX12_isIn 14 = .ok (.iconst 0, 1) := by decide +kernel
theorem dX12_isIn_15 : decode cX12_isIn 15 = .ok (.ireturn, 1) := by decide +kernel
theorem dX12_isLeaf_0 : decode cX12_isLeaf 0 = .ok (.iload_n 2, 1) := by decide +kernel
theorem dX12_isLeaf_1 : decode cX12_isLeaf 1 = .ok (.tableswitch 139 0 4 #[35, 49, 63, 76, 116], 35) := by decide +kernel
theorem dX12_isLeaf_36 : decode cX12_isLeaf 36 = .ok (.aload_n 0, 1) := by decide +kernel
theorem dX12_isLeaf_37 : decode cX12_isLeaf 37 = .ok (.iload_n 1, 1) := by decide +kernel
theorem dX12_isLeaf_38 : decode cX12_isLeaf 38 = .ok (.invokevirtual 256, 3) := by decide +kernel
theorem dX12_isLeaf_41 : decode cX12_isLeaf 41 = .ok (.ifCond .ne 7, 3) := by decide +kernel
theorem dX12_isLeaf_44 : decode cX12_isLeaf 44 = .ok (.iconst 1, 1) := by decide +kernel
theorem dX12_isLeaf_45 : decode cX12_isLeaf 45 = .ok (.goto 4, 3) := by decide +kernel
theorem dX12_isLeaf_48 : decode cX12_isLeaf 48 = .ok (.iconst 0, 1) := by decide +kernel
theorem dX12_isLeaf_49 : decode cX12_isLeaf 49 = .ok (.ireturn, 1) := by decide +kernel
theorem dX12_isLeaf_50 : decode cX12_isLeaf 50 = .ok (.aload_n 0, 1) := by decide +kernel
theorem dX12_isLeaf_51 : decode cX12_isLeaf 51 = .ok (.iload_n 1, 1) := by decide +kernel
theorem dX12_isLeaf_52 : decode cX12_isLeaf 52 = .ok (.invokevirtual 259, 3) := by decide +kernel
theorem dX12_isLeaf_55 : decode cX12_isLeaf 55 = .ok (.ifCond .lt 7, 3) := by decide +kernel
theorem dX12_isLeaf_58 : decode cX12_isLeaf 58 = .ok (.iconst 1, 1) := by decide +kernel
theorem dX12_isLeaf_59 : decode cX12_isLeaf 59 = .ok (.goto 4, 3) := by decide +kernel
theorem dX12_isLeaf_62 : decode cX12_isLeaf 62 = .ok (.iconst 0, 1) := by decide +kernel
theorem dX12_isLeaf_63 : decode cX12_isLeaf 63 = .ok (.ireturn, 1) := by decide +kernel
theorem dX12_isLeaf_64 : decode cX12_isLeaf 64 = .ok (.aload_n 0, 1) := by decide +kernel
theorem dX12_isLeaf_65 : decode cX12_isLeaf 65 = .ok (.getfield 33, 3) := by decide +kernel
theorem dX12_isLeaf_68 : decode cX12_isLeaf 68 = .ok (.sipush 150, 3) := by decide +kernel
theorem dX12_isLeaf_71 : decode cX12_isLeaf 71 = .ok (.iaload, 1) := by decide +kernel
theorem dX12_isLeaf_72 : decode cX12_isLeaf 72 = .ok (.iload_n 1, 1) := by decide +kernel
theorem dX12_isLeaf_73 : decode cX12_isLeaf 73 = .ok (.invokestatic 215, 3) := by decide +kernel
theorem dX12_isLeaf_76 : decode cX12_isLeaf 76 = .ok (.ireturn, 1) := by decide +kernel
theorem dX12_isLeaf_77 : decode cX12_isLeaf 77 = .ok (.aload_n 0, 1) := by decide +kernel
theorem dX12_isLeaf_78 : decode cX12_isLeaf 78 = .ok (.getfield 33, 3) := by decide +kernel
theorem dX12_isLeaf_81 : decode cX12_isLeaf 81 = .ok (.bipush 47, 2) := by decide +kernel
theorem dX12_isLeaf_83 : decode cX12_isLeaf 83 = .ok (.iload_n 1, 1) := by decide +kernel
theorem dX12_isLeaf_84 : decode cX12_isLeaf 84 = .ok (.iadd, 1) := by decide +kernel
theorem dX12_isLeaf_85 : decode cX12_isLeaf 85 = .ok (.iaload, 1) := by decide +kernel
theorem dX12_isLeaf_86 : decode cX12_isLeaf 86 = .ok (.ifCond .le 29, 3) := by decide +kernel
theorem dX12_isLeaf_89 : decode cX12_isLeaf 89 = .ok (.aload_n 0, 1) := by decide +kernel
theorem dX12_isLeaf_90 : decode cX12_isLeaf 90 = .ok (.getfield 33, 3) := by decide +kernel
theorem dX12_isLeaf_93 : decode cX12_isLeaf 93 = .ok (.sipush 161, 3) := by decide +kernel
theorem dX12_isLeaf_96 : decode cX12_isLeaf 96 = .ok (.iload_n 1, 1) := by decide +kernel
theorem dX12_isLeaf_97 : decode cX12_isLeaf 97 = .ok (.iadd, 1) := by decide +kernel
theorem dX12_isLeaf_98 : decode cX12_isLeaf 98 = .ok (.iaload, 1) := by decide +kernel
theorem dX12_isLeaf_99 : decode cX12_isLeaf 99 = .ok (.aload_n 0, 1) := by decide +kernel
theorem dX12_isLeaf_100 : decode cX12_isLeaf 100 = .ok (.getfield 33, 3) := by decide +kernel
theorem dX12_isLeaf_103 : decode cX12_isLeaf 103 = .ok (.bipush 47, 2) := by decide +kernel
theorem dX12_isLeaf_105 : decode cX12_isLeaf 105 = .ok (.iload_n 1, 1) := by decide +kernel
theorem dX12_isLeaf_106 : decode cX12_isLeaf 106 = .ok (.iadd, 1) := by decide +kernel
theorem dX12_isLeaf_107 : decode cX12_isLeaf 107 = .ok (.iaload, 1) := by decide +kernel
theorem dX12_isLeaf_108 : decode cX12_isLeaf 108 = .ok (.if_icmp .ne 7, 3) := by decide +kernel
theorem dX12_isLeaf_111 : decode cX12_isLeaf 111 = .ok (.iconst 1, 1) := by decide +kernel
theorem dX12_isLeaf_112 : decode cX12_isLeaf 112 = .ok (.goto 4, 3) := by decide +kernel
theorem dX12_isLeaf_115 : decode cX12_isLeaf 115 = .ok (.iconst 0, 1) := by decide +kernel
theorem dX12_isLeaf_116 : decode cX12_isLeaf 116 = .ok (.ireturn, 1) := by decide +kernel
theorem dX12_isLeaf_117 : decode cX12_isLeaf 117 = .ok (.aload_n 0, 1) := by decide +kernel
theorem dX12_isLeaf_118 : decode cX12_isLeaf 118 = .ok (.getfield 33, 3) := by decide +kernel
theorem dX12_isLeaf_121 : decode cX12_isLeaf 121 = .ok (.sipush 161, 3) := by decide +kernel
theorem dX12_isLeaf_124 : decode cX12_isLeaf 124 = .ok (.iload_n 1, 1) := by decide +kernel
theorem dX12_isLeaf_125 : decode cX12_isLeaf 125 = .ok (.iadd, 1) := by decide +kernel
theorem dX12_isLeaf_126 : decode cX12_isLeaf 126 = .ok (.iaload, 1) := by decide +kernel
theorem dX12_isLeaf_127 : decode cX12_isLeaf 127 = .ok (.iload 4, 2) := by decide +kernel
theorem dX12_isLeaf_129 : decode cX12_isLeaf 129 = .ok (.iconst 1, 1) := by decide +kernel
theorem dX12_isLeaf_130 : decode cX12_isLeaf 130 = .ok (.iadd, 1) := by decide +kernel
theorem dX12_isLeaf_131 : decode cX12_isLeaf 131 = .ok (.if_icmp .ne 7, 3) := by decide +kernel
theorem dX12_isLeaf_134 : decode cX12_isLeaf 134 = .ok (.iconst 1, 1) := by decide +kernel
theorem dX12_isLeaf_135 : decode cX12_isLeaf 135 = .ok (.goto 4, 3) := by decide +kernel
theorem dX12_isLeaf_138 : decode cX12_isLeaf 138 = .ok (.iconst 0, 1) := by decide +kernel
theorem dX12_isLeaf_139 : decode cX12_isLeaf 139 = .ok (.ireturn, 1) := by decide +kernel
theorem dX12_isLeaf_140 : decode cX12_isLeaf 140 = .ok (.aload_n 0, 1) := by decide +kernel
theorem dX12_isLeaf_141 : decode cX12_isLeaf 141 = .ok (.getfield 33, 3) := by decide +kernel
theorem dX12_isLeaf_144 : decode cX12_isLeaf 144 = .ok (.sipush 161, 3) := by decide +kernel
theorem dX12_isLeaf_147 : decode cX12_isLeaf 147 = .ok (.iload_n 1, 1) := by decide +kernel
theorem dX12_isLeaf_148 : decode cX12_isLeaf 148 = .ok (.iadd, 1) := by decide +kernel
theorem dX12_isLeaf_149 : decode cX12_isLeaf 149 = .ok (.iaload, 1) := by decide +kernel
theorem dX12_isLeaf_150 : decode cX12_isLeaf 150 = .ok (.ifCond .ne 7, 3) := by decide +kernel
theorem dX12_isLeaf_153 : decode cX12_isLeaf 153 = .ok (.iconst 0, 1) := by decide +kernel
theorem dX12_isLeaf_154 : decode cX12_isLeaf 154 = .ok (.goto 24, 3) := by decide +kernel
theorem dX12_isLeaf_157 : decode cX12_isLeaf 157 = .ok (.aload_n 0, 1) := by decide +kernel
theorem dX12_isLeaf_158 : decode cX12_isLeaf 158 = .ok (.getfield 33, 3) := by decide +kernel
theorem dX12_isLeaf_161 : decode cX12_isLeaf 161 = .ok (.sipush 188, 3) := by decide +kernel
theorem dX12_isLeaf_164 : decode cX12_isLeaf 164 = .ok (.aload_n 0, 1) := by decide +kernel
theorem dX12_isLeaf_165 : decode cX12_isLeaf 165 = .ok (.getfield 33, 3) := by decide +kernel
theorem dX12_isLeaf_168 : decode cX12_isLeaf 168 = .ok (.sipush 161, 3) := by decide +kernel
theorem dX12_isLeaf_171 : decode cX12_isLeaf 171 = .ok (.iload_n 1, 1) := by decide +kernel
theorem dX12_isLeaf_172 : decode cX12_isLeaf 172 = .ok (.iadd, 1) := by decide +kernel
theorem dX12_isLeaf_173 : decode cX12_isLeaf 173 = .ok (.iaload, 1) := by decide +kernel
theorem dX12_isLeaf_174 : decode cX12_isLeaf 174 = .ok (.iadd, 1) := by decide +kernel
theorem dX12_isLeaf_175 : decode cX12_isLeaf 175 = .ok (.iconst 1, 1) := by decide +kernel
theorem dX12_isLeaf_176 : decode cX12_isLeaf 176 = .ok (.isub, 1) := by decide +kernel
theorem dX12_isLeaf_177 : decode cX12_isLeaf 177 = .ok (.iaload, 1) := by decide +kernel
theorem dX12_isLeaf_178 : decode cX12_isLeaf 178 = .ok (.istore 5, 2) := by decide +kernel
theorem dX12_isLeaf_180 : decode cX12_isLeaf 180 = .ok (.iload_n 2, 1) := by decide +kernel
theorem dX12_isLeaf_181 : decode cX12_isLeaf 181 = .ok (.iconst 5, 1) := by decide +kernel
theorem dX12_isLeaf_182 : decode cX12_isLeaf 182 = .ok (.if_icmp .ne 16, 3) := by decide +kernel
theorem dX12_isLeaf_185 : decode cX12_isLeaf 185 = .ok (.aload_n 0, 1) := by decide +kernel
theorem dX12_isLeaf_186 : decode cX12_isLeaf 186 = .ok (.getfield 33, 3) := by decide +kernel
theorem dX12_isLeaf_189 : decode cX12_isLeaf 189 = .ok (.sipush 170, 3) := by decide +kernel
theorem dX12_isLeaf_192 : decode cX12_isLeaf 192 = .ok (.iload_n 1, 1) := by decide +kernel
theorem dX12_isLeaf_193 : decode cX12_isLeaf 193 = .ok (.iadd, 1) := by decide +kernel
theorem dX12_isLeaf_194 : decode cX12_isLeaf 194 = .ok (.iaload, 1) := by decide +kernel
theorem dX12_isLeaf_195 : decode cX12_isLeaf 195 = .ok (.goto 34, 3) := by decide +kernel
theorem dX12_isLeaf_198 : decode cX12_isLeaf 198 = .ok (.iload_n 2, 1) := by decide +kernel
theorem dX12_isLeaf_199 : decode cX12_isLeaf 199 = .ok (.bipush 6, 2) := by decide +kernel
theorem dX12_isLeaf_201 : decode cX12_isLeaf 201 = .ok (.if_icmp .ne 8, 3) := by decide +kernel
theorem dX12_isLeaf_204 : decode cX12_isLeaf 204 = .ok (.iload 5, 2) := by decide +kernel
theorem dX12_isLeaf_206 : decode cX12_isLeaf 206 = .ok (.goto 23, 3) := by decide +kernel
theorem dX12_isLeaf_209 : decode cX12_isLeaf 209 = .ok (.iload_n 2, 1) := by decide +kernel
theorem dX12_isLeaf_210 : decode cX12_isLeaf 210 = .ok (.bipush 7, 2) := by decide +kernel
theorem dX12_isLeaf_212 : decode cX12_isLeaf 212 = .ok (.if_icmp .ne 16, 3) := by decide +kernel
theorem dX12_isLeaf_215 : decode cX12_isLeaf 215 = .ok (.aload_n 0, 1) := by decide +kernel
theorem dX12_isLeaf_216 : decode cX12_isLeaf 216 = .ok (.getfield 33, 3) := by decide +kernel
theorem dX12_isLeaf_219 : decode cX12_isLeaf 219 = .ok (.sipush 179, 3) := by decide +kernel
theorem dX12_isLeaf_222 : decode cX12_isLeaf 222 = .ok (.iload_n 1, 1) := by decide +kernel
theorem dX12_isLeaf_223 : decode cX12_isLeaf 223 = .ok (.iadd, 1) := by decide +kernel
theorem dX12_isLeaf_224 : decode cX12_isLeaf 224 = .ok (.iaload, 1) := by decide +kernel
theorem dX12_isLeaf_225 : decode cX12_isLeaf 225 = .ok (.goto 4, 3) := by decide +kernel
theorem dX12_isLeaf_228 : decode cX12_isLeaf 228 = .ok (.iload_n 1, 1) := by decide +kernel
theorem dX12_isLeaf_229 : decode cX12_isLeaf 229 = .ok (.istore 6, 2) := by decide +kernel
theorem dX12_isLeaf_231 : decode cX12_isLeaf 231 = .ok (.iload_n 3, 1) := by decide +kernel
theorem dX12_isLeaf_232 : decode cX12_isLeaf 232 = .ok (.bipush 60, 2) := by decide +kernel
theorem dX12_isLeaf_234 : decode cX12_isLeaf 234 = .ok (.if_icmp .ne 18, 3) := by decide +kernel
theorem dX12_isLeaf_237 : decode cX12_isLeaf 237 = .ok (.iload 6, 2) := by decide +kernel
theorem dX12_isLeaf_239 : decode cX12_isLeaf 239 = .ok (.iload 4, 2) := by decide +kernel
theorem dX12_isLeaf_241 : decode cX12_isLeaf 241 = .ok (.if_icmp .ge 7, 3) := by decide +kernel
theorem dX12_isLeaf_244 : decode cX12_isLeaf 244 = .ok (.iconst 1, 1) := by decide +kernel
theorem dX12_isLeaf_245 : decode cX12_isLeaf 245 = .ok (.goto 40, 3) := by decide +kernel
theorem dX12_isLeaf_248 : decode cX12_isLeaf 248 = .ok (.iconst 0, 1) := by decide +kernel
theorem dX12_isLeaf_249 : decode cX12_isLeaf 249 = .ok (.goto 36, 3) := by decide +kernel
theorem dX12_isLeaf_252 : decode cX12_isLeaf 252 = .ok (.iload_n 3, 1) := by decide +kernel
theorem dX12_isLeaf_253 : decode cX12_isLeaf 253 = .ok (.bipush 61, 2) := by decide +kernel
theorem dX12_isLeaf_255 : decode cX12_isLeaf 255 = .ok (.if_icmp .ne 18, 3) := by decide +kernel
theorem dX12_isLeaf_258 : decode cX12_isLeaf 258 = .ok (.iload 6, 2) := by decide +kernel
theorem dX12_isLeaf_260 : decode cX12_isLeaf 260 = .ok (.iload 4, 2) := by decide +kernel
theorem dX12_isLeaf_262 : decode cX12_isLeaf 262 = .ok (.if_icmp .ne 7, 3) := by decide +kernel
theorem dX12_isLeaf_265 : decode cX12_isLeaf 265 = .ok (.iconst 1, 1) := by decide +kernel
theorem dX12_isLeaf_266 : decode cX12_isLeaf 266 = .ok (.goto 19, 3) := by decide +kernel
theorem dX12_isLeaf_269 : decode cX12_isLeaf 269 = .ok (.iconst 0, 1) := by decide +kernel
theorem dX12_isLeaf_270 : decode cX12_isLeaf 270 = .ok (.goto 15, 3) := by decide +kernel
theorem dX12_isLeaf_273 : decode cX12_isLeaf 273 = .ok (.iload 6, 2) := by decide +kernel
theorem dX12_isLeaf_275 : decode cX12_isLeaf 275 = .ok (.iload 4, 2) := by decide +kernel
theorem dX12_isLeaf_277 : decode cX12_isLeaf 277 = .ok (.if_icmp .le 7, 3) := by decide +kernel
theorem dX12_isLeaf_280 : decode cX12_isLeaf 280 = .ok (.iconst 1, 1) := by decide +kernel
theorem dX12_isLeaf_281 : decode cX12_isLeaf 281 = .ok (.goto 4, 3) := by decide +kernel
theorem dX12_isLeaf_284 : decode cX12_isLeaf 284 = .ok (.iconst 0, 1) := by decide +kernel
theorem dX12_isLeaf_285 : decode cX12_isLeaf 285 = .ok (.ireturn, 1) := by decide +kernel
theorem dX12_isMet_0 : decode cX12_isMet 0 = .ok (.aload_n 0, 1) := by decide +kernel
theorem dX12_isMet_1 : decode cX12_isMet 1 = .ok (.getfield 33, 3) := by decide +kernel
theorem dX12_isMet_4 : decode cX12_isMet 4 = .ok (.sipush 161, 3) := by decide +kernel
theorem dX12_isMet_7 : decode cX12_isMet 7 = .ok (.iload_n 1, 1) := by decide +kernel
theorem dX12_isMet_8 : decode cX12_isMet 8 = .ok (.iadd, 1) := by decide +kernel
theorem dX12_isMet_9 : decode cX12_isMet 9 = .ok (.iaload, 1) := by decide +kernel
theorem dX12_isMet_10 : decode cX12_isMet 10 = .ok (.aload_n 0, 1) := by decide +kernel
theorem dX12_isMet_11 : decode cX12_isMet 11 = .ok (.getfield 33, 3) := by decide +kernel
theorem dX12_isMet_14 : decode cX12_isMet 14 = .ok (.bipush 47, 2) := by decide +kernel
theorem dX12_isMet_16 : decode cX12_isMet 16 = .ok (.iload_n 1, 1) := by decide +kernel
theorem dX12_isMet_17 : decode cX12_isMet 17 = .ok (.iadd, 1) := by decide +kernel
theorem dX12_isMet_18 : decode cX12_isMet 18 = .ok (.iaload, 1) := by decide +kernel
theorem dX12_isMet_19 : decode cX12_isMet 19 = .ok (.if_icmp .ne 7, 3) := by decide +kernel
theorem dX12_isMet_22 : decode cX12_isMet 22 = .ok (.iconst 1, 1) := by decide +kernel
theorem dX12_isMet_23 : decode cX12_isMet 23 = .ok (.goto 4, 3) := by decide +kernel
theorem dX12_isMet_26 : decode cX12_isMet 26 = .ok (.iconst 0, 1) := by decide +kernel
theorem dX12_isMet_27 : decode cX12_isMet 27 = .ok (.ireturn, 1) := by decide +kernel
theorem dX12_isName_0 : decode cX12_isName 0 = .ok (.aload_n 0, 1) := by decide +kernel
theorem dX12_isName_1 : decode cX12_isName 1 = .ok (.getfield 145, 3) := by decide +kernel
theorem dX12_isName_4 : decode cX12_isName 4 = .ok (.iconst 1, 1) := by decide +kernel
theorem dX12_isName_5 : decode cX12_isName 5 = .ok (.if_icmp .ne 7, 3) := by decide +kernel
theorem dX12_isName_8 : decode cX12_isName 8 = .ok (.iconst 1, 1) := by decide +kernel
theorem dX12_isName_9 : decode cX12_isName 9 = .ok (.goto 4, 3) := by decide +kernel
theorem dX12_isName_12 : decode cX12_isName 12 = .ok (.iconst 0, 1) := by decide +kernel
theorem dX12_isName_13 : decode cX12_isName 13 = .ok (.istore_n 1, 1) := by decide +kernel
theorem dX12_isName_14 : decode cX12_isName 14 = .ok (.iconst 0, 1) := by decide +kernel
theorem dX12_isName_15 : decode cX12_isName 15 = .ok (.istore_n 2, 1) := by decide +kernel
theorem dX12_isName_16 : decode cX12_isName 16 = .ok (.iload_n 2, 1) := by decide +kernel
theorem dX12_isName_17 : decode cX12_isName 17 = .ok (.bipush 27, 2) := by decide +kernel
theorem dX12_isName_19 : decode cX12_isName 19 = .ok (.if_icmp .ge 33, 3) := by decide +kernel
theorem dX12_isName_22 : decode cX12_isName 22 = .ok (.iload_n 1, 1) := by decide +kernel
theorem dX12_isName_23 : decode cX12_isName 23 = .ok (.ifCond .eq 21, 3) := by decide +kernel
theorem dX12_isName_26 : decode cX12_isName 26 = .ok (.aload_n 0, 1) := by decide +kernel
theorem dX12_isName_27 : decode cX12_isName 27 = .ok (.getfield 158, 3) := by decide +kernel
theorem dX12_isName_30 : decode cX12_isName 30 = .ok (.aload_n 0, 1) := by decide +kernel
theorem dX12_isName_31 : decode cX12_isName 31 = .ok (.getfield 47, 3) := by decide +kernel
theorem dX12_isName_34 : decode cX12_isName 34 = .ok (.iload_n 2, 1) := by decide +kernel
theorem dX12_isName_35 : decode cX12_isName 35 = .ok (.laload, 1) := by decide +kernel
theorem dX12_isName_36 : decode cX12_isName 36 = .ok (.lcmp, 1) := by decide +kernel
theorem dX12_isName_37 : decode cX12_isName 37 = .ok (.ifCond .eq 7, 3) := by decide +kernel
theorem dX12_isName_40 : decode cX12_isName 40 = .ok (.iconst 1, 1) := by decide +kernel
theorem dX12_isName_41 : decode cX12_isName 41 = .ok (.goto 4, 3) := by decide +kernel
theorem dX12_isName_44 : decode cX12_isName 44 = .ok (.iconst 0, 1) := by decide +kernel
theorem dX12_isName_45 : decode cX12_isName 45 = .ok (.istore_n 1, 1) := by decide +kernel
theorem dX12_isName_46 : decode cX12_isName 46 = .ok (.iinc 2 1, 3) := by decide +kernel
theorem dX12_isName_49 : decode cX12_isName 49 = .ok (.goto (-33), 3) := by decide +kernel
theorem dX12_isName_52 : decode cX12_isName 52 = .ok (.iload_n 1, 1) := by decide +kernel
theorem dX12_isName_53 : decode cX12_isName 53 = .ok (.ireturn, 1) := by decide +kernel
theorem dX12_isNameOf_0 : decode cX12_isNameOf 0 = .ok (.iload_n 1, 1) := by decide +kernel
theorem dX12_isNameOf_1 : decode cX12_isNameOf 1 = .ok (.iconst 0, 1) := by decide +kernel
theorem dX12_isNameOf_2 : decode cX12_isNameOf 2 = .ok (.aload_n 0, 1) := by decide +kernel
theorem dX12_isNameOf_3 : decode cX12_isNameOf 3 = .ok (.getfield 33, 3) := by decide +kernel
theorem dX12_isNameOf_6 : decode cX12_isNameOf 6 = .ok (.iconst 0, 1) := by decide +kernel
theorem dX12_isNameOf_7 : decode cX12_isNameOf 7 = .ok (.iaload, 1) := by decide +kernel
theorem dX12_isNameOf_8 : decode cX12_isNameOf 8 = .ok (.iconst 1, 1) := by decide +kernel
theorem dX12_isNameOf_9 : decode cX12_isNameOf 9 = .ok (.isub, 1) := by decide +kernel
theorem dX12_isNameOf_10 : decode cX12_isNameOf 10 = .ok (.invokestatic 177, 3) := by decide +kernel
theorem dX12_isNameOf_13 : decode cX12_isNameOf 13 = .ok (.ireturn, 1) := by decide +kernel
theorem dX12_isPast_0 : decode cX12_isPast 0 = .ok (.iload_n 1, 1) := by decide +kernel
theorem dX12_isPast_1 : decode cX12_isPast 1 = .ok (.iconst 0, 1) := by decide +kernel
theorem dX12_isPast_2 : decode cX12_isPast 2 = .ok (.aload_n 0, 1) := by decide +kernel
theorem dX12_isPast_3 : decode cX12_isPast 3 = .ok (.getfield 33, 3) := by decide +kernel
theorem dX12_isPast_6 : decode cX12_isPast 6 = .ok (.sipush 146, 3) := by decide +kernel
theorem dX12_isPast_9 : decode cX12_isPast 9 = .ok (.iaload, 1) := by decide +kernel
theorem dX12_isPast_10 : decode cX12_isPast 10 = .ok (.iconst 1, 1) := by decide +kernel
theorem dX12_isPast_11 : decode cX12_isPast 11 = .ok (.isub, 1) := by decide +kernel
theorem dX12_isPast_12 : decode cX12_isPast 12 = .ok (.invokestatic 177, 3) := by decide +kernel
theorem dX12_isPast_15 : decode cX12_isPast 15 = .ok (.ireturn, 1) := by decide +kernel
theorem dX12_isSaid_0 : decode cX12_isSaid 0 = .ok (.iconst 0, 1) := by decide +kernel
theorem dX12_isSaid_1 : decode cX12_isSaid 1 = .ok (.istore_n 2, 1) := by decide +kernel
theorem dX12_isSaid_2 : decode cX12_isSaid 2 = .ok (.iconst 0, 1) := by decide +kernel
theorem dX12_isSaid_3 : decode cX12_isSaid 3 = .ok (.istore_n 3, 1) := by decide +kernel
theorem dX12_isSaid_4 : decode cX12_isSaid 4 = .ok (.iload_n 3, 1) := by decide +kernel
theorem dX12_isSaid_5 : decode cX12_isSaid 5 = .ok (.aload_n 0, 1) := by decide +kernel
theorem dX12_isSaid_6 : decode cX12_isSaid 6 = .ok (.getfield 33, 3) := by decide +kernel
theorem dX12_isSaid_9 : decode cX12_isSaid 9 = .ok (.sipush 2006, 3) := by decide +kernel
theorem dX12_isSaid_12 : decode cX12_isSaid 12 = .ok (.iaload, 1) := by decide +kernel
theorem dX12_isSaid_13 : decode cX12_isSaid 13 = .ok (.if_icmp .ge 199, 3) := by decide +kernel
theorem dX12_isSaid_16 : decode cX12_isSaid 16 = .ok (.sipush 2007, 3) := by decide +kernel
theorem dX12_isSaid_19 : decode cX12_isSaid 19 = .ok (.iconst 3, 1) := by decide +kernel
theorem dX12_isSaid_20 : decode cX12_isSaid 20 = .ok (.iload_n 3, 1) := by decide +kernel
theorem dX12_isSaid_21 : decode cX12_isSaid 21 = .ok (.imul, 1) := by decide +kernel
theorem dX12_isSaid_22 : decode cX12_isSaid 22 = .ok (.iadd, 1) := by decide +kernel
theorem dX12_isSaid_23 : decode cX12_isSaid 23 = .ok (.istore 4, 2) := by decide +kernel
theorem dX12_isSaid_25 : decode cX12_isSaid 25 = .ok (.aload_n 0, 1) := by decide +kernel
theorem dX12_isSaid_26 : decode cX12_isSaid 26 = .ok (.getfield 33, 3) := by decide +kernel
theorem dX12_isSaid_29 : decode cX12_isSaid 29 = .ok (.iload 4, 2) := by decide +kernel
theorem dX12_isSaid_31 : decode cX12_isSaid 31 = .ok (.iaload, 1) := by decide +kernel
theorem dX12_isSaid_32 : decode cX12_isSaid 32 = .ok (.bipush 20, 2) := by decide +kernel
theorem dX12_isSaid_34 : decode cX12_isSaid 34 = .ok (.if_icmp .ne 30, 3) := by decide +kernel
theorem dX12_isSaid_37 : decode cX12_isSaid 37 = .ok (.aload_n 0, 1) := by decide +kernel
theorem dX12_isSaid_38 : decode cX12_isSaid 38 = .ok (.getfield 68, 3) := by decide +kernel
theorem dX12_isSaid_41 : decode cX12_isSaid 41 = .ok (.iload_n 2, 1) := by decide +kernel
theorem dX12_isSaid_42 : decode cX12_isSaid 42 = .ok (.iconst 1, 1) := by decide +kernel
theorem dX12_isSaid_43 : decode cX12_isSaid 43 = .ok (.isub, 1) := by decide +kernel
theorem dX12_isSaid_44 : decode cX12_isSaid 44 = .ok (.aload_n 0, 1) := by decide +kernel
theorem dX12_isSaid_45 : decode cX12_isSaid 45 = .ok (.getfield 68, 3) := by decide +kernel
theorem dX12_isSaid_48 : decode cX12_isSaid 48 = .ok (.iload_n 2, 1) := by decide +kernel
theorem dX12_isSaid_49 : decode cX12_isSaid 49 = .ok (.iconst 1, 1) := by decide +kernel
theorem dX12_isSaid_50 : decode cX12_isSaid 50 = .ok (.isub, 1) := by decide +kernel
theorem dX12_isSaid_51 : decode cX12_isSaid 51 = .ok (.baload, 1) := by decide +kernel
theorem dX12_isSaid_52 : decode cX12_isSaid 52 = .ok (.ifCond .ne 7, 3) := by decide +kernel
theorem dX12_isSaid_55 : decode cX12_isSaid 55 = .ok (.iconst 1, 1) := by decide +kernel
theorem dX12_isSaid_56 : decode cX12_isSaid 56 = .ok (.goto 4, 3) := by decide +kernel
theorem dX12_isSaid_59 : decode cX12_isSaid 59 = .ok (.iconst 0, 1) := by decide +kernel
theorem dX12_isSaid_60 : decode cX12_isSaid 60 = .ok (.bastore, 1) := by decide +kernel
theorem dX12_isSaid_61 : decode cX12_isSaid 61 = .ok (.goto 145, 3) := by decide +kernel
theorem dX12_isSaid_64 : decode cX12_isSaid 64 = .ok (.aload_n 0, 1) := by decide +kernel
theorem dX12_isSaid_65 : decode cX12_isSaid 65 = .ok (.getfield 33, 3) := by decide +kernel
theorem dX12_isSaid_68 : decode cX12_isSaid 68 = .ok (.iload 4, 2) := by decide +kernel
theorem dX12_isSaid_70 : decode cX12_isSaid 70 = .ok (.iaload, 1) := by decide +kernel
theorem dX12_isSaid_71 : decode cX12_isSaid 71 = .ok (.bipush 21, 2) := by decide +kernel
theorem dX12_isSaid_73 : decode cX12_isSaid 73 = .ok (.if_icmp .eq 15, 3) := by decide +kernel
theorem dX12_isSaid_76 : decode cX12_isSaid 76 = .ok (.aload_n 0, 1) := by decide +kernel
theorem dX12_isSaid_77 : decode cX12_isSaid 77 = .ok (.getfield 33, 3) := by decide +kernel
theorem dX12_isSaid_80 : decode cX12_isSaid 80 = .ok (.iload 4, 2) := by decide +kernel
theorem dX12_isSaid_82 : decode cX12_isSaid 82 = .ok (.iaload, 1) := by decide +kernel
theorem dX12_isSaid_83 : decode cX12_isSaid 83 = .ok (.bipush 22, 2) := by decide +kernel
theorem dX12_isSaid_85 : decode cX12_isSaid 85 = .ok (.if_icmp .ne 82, 3) := by decide +kernel
theorem dX12_isSaid_88 : decode cX12_isSaid 88 = .ok (.iinc 2 (-1), 3) := by decide +kernel
theorem dX12_isSaid_91 : decode cX12_isSaid 91 = .ok (.aload_n 0, 1) := by decide +kernel
theorem dX12_isSaid_92 : decode cX12_isSaid 92 = .ok (.getfield 68, 3) := by decide +kernel
theorem dX12_isSaid_95 : decode cX12_isSaid 95 = .ok (.iload_n 2, 1) := by decide +kernel
theorem dX12_isSaid_96 : decode cX12_isSaid 96 = .ok (.iconst 1, 1) := by decide +kernel
theorem dX12_isSaid_97 : decode cX12_isSaid 97 = .ok (.isub, 1) := by decide +kernel
theorem dX12_isSaid_98 : decode cX12_isSaid 98 = .ok (.aload_n 0, 1) := by decide +kernel
theorem dX12_isSaid_99 : decode cX12_isSaid 99 = .ok (.getfield 33, 3) := by decide +kernel
theorem dX12_isSaid_102 : decode cX12_isSaid 102 = .ok (.iload 4, 2) := by decide +kernel
theorem dX12_isSaid_104 : decode cX12_isSaid 104 = .ok (.iaload, 1) := by decide +kernel
theorem dX12_isSaid_105 : decode cX12_isSaid 105 = .ok (.bipush 21, 2) := by decide +kernel
theorem dX12_isSaid_107 : decode cX12_isSaid 107 = .ok (.if_icmp .ne 31, 3) := by decide +kernel
theorem dX12_isSaid_110 : decode cX12_isSaid 110 = .ok (.aload_n 0, 1) := by decide +kernel
theorem dX12_isSaid_111 : decode cX12_isSaid 111 = .ok (.getfield 68, 3) := by decide +kernel
theorem dX12_isSaid_114 : decode cX12_isSaid 114 = .ok (.iload_n 2, 1) := by decide +kernel
theorem dX12_isSaid_115 : decode cX12_isSaid 115 = .ok (.iconst 1, 1) := by decide +kernel
theorem dX12_isSaid_116 : decode cX12_isSaid 116 = .ok (.isub, 1) := by decide +kernel
