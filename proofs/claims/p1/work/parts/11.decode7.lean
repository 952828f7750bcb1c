theorem dX2_copyFrom_1 : decode cX2_copyFrom 1 = .ok (.aload_n 1, 1) := by decide +kernel
theorem dX2_copyFrom_2 : decode cX2_copyFrom 2 = .ok (.getfield 41, 3) := by decide +kernel
theorem dX2_copyFrom_5 : decode cX2_copyFrom 5 = .ok (.putfield 41, 3) := by decide +kernel
theorem dX2_copyFrom_8 : decode cX2_copyFrom 8 = .ok (.aload_n 0, 1) := by decide +kernel
theorem dX2_copyFrom_9 : decode cX2_copyFrom 9 = .ok (.aload_n 1, 1) := by decide +kernel
theorem dX2_copyFrom_10 : decode cX2_copyFrom 10 = .ok (.getfield 50, 3) := by decide +kernel
theorem dX2_copyFrom_13 : decode cX2_copyFrom 13 = .ok (.putfield 50, 3) := by decide +kernel
theorem dX2_copyFrom_16 : decode cX2_copyFrom 16 = .ok (.aload_n 0, 1) := by decide +kernel
theorem dX2_copyFrom_17 : decode cX2_copyFrom 17 = .ok (.aload_n 1, 1) := by decide +kernel
theorem dX2_copyFrom_18 : decode cX2_copyFrom 18 = .ok (.getfield 53, 3) := by decide +kernel
theorem dX2_copyFrom_21 : decode cX2_copyFrom 21 = .ok (.putfield 53, 3) := by decide +kernel
theorem dX2_copyFrom_24 : decode cX2_copyFrom 24 = .ok (.aload_n 0, 1) := by decide +kernel
theorem dX2_copyFrom_25 : decode cX2_copyFrom 25 = .ok (.aload_n 1, 1) := by decide +kernel
theorem dX2_copyFrom_26 : decode cX2_copyFrom 26 = .ok (.getfield 56, 3) := by decide +kernel
theorem dX2_copyFrom_29 : decode cX2_copyFrom 29 = .ok (.putfield 56, 3) := by decide +kernel
theorem dX2_copyFrom_32 : decode cX2_copyFrom 32 = .ok (.aload_n 0, 1) := by decide +kernel
theorem dX2_copyFrom_33 : decode cX2_copyFrom 33 = .ok (.aload_n 1, 1) := by decide +kernel
theorem dX2_copyFrom_34 : decode cX2_copyFrom 34 = .ok (.getfield 59, 3) := by decide +kernel
theorem dX2_copyFrom_37 : decode cX2_copyFrom 37 = .ok (.putfield 59, 3) := by decide +kernel
theorem dX2_copyFrom_40 : decode cX2_copyFrom 40 = .ok (.aload_n 0, 1) := by decide +kernel
theorem dX2_copyFrom_41 : decode cX2_copyFrom 41 = .ok (.aload_n 1, 1) := by decide +kernel
theorem dX2_copyFrom_42 : decode cX2_copyFrom 42 = .ok (.getfield 62, 3) := by decide +kernel
theorem dX2_copyFrom_45 : decode cX2_copyFrom 45 = .ok (.putfield 62, 3) := by decide +kernel
theorem dX2_copyFrom_48 : decode cX2_copyFrom 48 = .ok (.aload_n 1, 1) := by decide +kernel
theorem dX2_copyFrom_49 : decode cX2_copyFrom 49 = .ok (.getfield 9, 3) := by decide +kernel
theorem dX2_copyFrom_52 : decode cX2_copyFrom 52 = .ok (.aload_n 0, 1) := by decide +kernel
theorem dX2_copyFrom_53 : decode cX2_copyFrom 53 = .ok (.getfield 9, 3) := by decide +kernel
theorem dX2_copyFrom_56 : decode cX2_copyFrom 56 = .ok (.invokestatic 95, 3) := by decide +kernel
theorem dX2_copyFrom_59 : decode cX2_copyFrom 59 = .ok (.aload_n 1, 1) := by decide +kernel
theorem dX2_copyFrom_60 : decode cX2_copyFrom 60 = .ok (.getfield 15, 3) := by decide +kernel
theorem dX2_copyFrom_63 : decode cX2_copyFrom 63 = .ok (.aload_n 0, 1) := by decide +kernel
theorem dX2_copyFrom_64 : decode cX2_copyFrom 64 = .ok (.getfield 15, 3) := by decide +kernel
theorem dX2_copyFrom_67 : decode cX2_copyFrom 67 = .ok (.invokestatic 95, 3) := by decide +kernel
theorem dX2_copyFrom_70 : decode cX2_copyFrom 70 = .ok (.aload_n 1, 1) := by decide +kernel
theorem dX2_copyFrom_71 : decode cX2_copyFrom 71 = .ok (.getfield 18, 3) := by decide +kernel
theorem dX2_copyFrom_74 : decode cX2_copyFrom 74 = .ok (.aload_n 0, 1) := by decide +kernel
theorem dX2_copyFrom_75 : decode cX2_copyFrom 75 = .ok (.getfield 18, 3) := by decide +kernel
theorem dX2_copyFrom_78 : decode cX2_copyFrom 78 = .ok (.invokestatic 95, 3) := by decide +kernel
theorem dX2_copyFrom_81 : decode cX2_copyFrom 81 = .ok (.aload_n 1, 1) := by decide +kernel
theorem dX2_copyFrom_82 : decode cX2_copyFrom 82 = .ok (.getfield 21, 3) := by decide +kernel
theorem dX2_copyFrom_85 : decode cX2_copyFrom 85 = .ok (.aload_n 0, 1) := by decide +kernel
theorem dX2_copyFrom_86 : decode cX2_copyFrom 86 = .ok (.getfield 21, 3) := by decide +kernel
theorem dX2_copyFrom_89 : decode cX2_copyFrom 89 = .ok (.invokestatic 95, 3) := by decide +kernel
theorem dX2_copyFrom_92 : decode cX2_copyFrom 92 = .ok (.aload_n 1, 1) := by decide +kernel
theorem dX2_copyFrom_93 : decode cX2_copyFrom 93 = .ok (.getfield 24, 3) := by decide +kernel
theorem dX2_copyFrom_96 : decode cX2_copyFrom 96 = .ok (.aload_n 0, 1) := by decide +kernel
theorem dX2_copyFrom_97 : decode cX2_copyFrom 97 = .ok (.getfield 24, 3) := by decide +kernel
theorem dX2_copyFrom_100 : decode cX2_copyFrom 100 = .ok (.invokestatic 95, 3) := by decide +kernel
theorem dX2_copyFrom_103 : decode cX2_copyFrom 103 = .ok (.aload_n 1, 1) := by decide +kernel
theorem dX2_copyFrom_104 : decode cX2_copyFrom 104 = .ok (.getfield 27, 3) := by decide +kernel
theorem dX2_copyFrom_107 : decode cX2_copyFrom 107 = .ok (.aload_n 0, 1) := by decide +kernel
theorem dX2_copyFrom_108 : decode cX2_copyFrom 108 = .ok (.getfield 27, 3) := by decide +kernel
theorem dX2_copyFrom_111 : decode cX2_copyFrom 111 = .ok (.invokestatic 95, 3) := by decide +kernel
theorem dX2_copyFrom_114 : decode cX2_copyFrom 114 = .ok (.aload_n 1, 1) := by decide +kernel
theorem dX2_copyFrom_115 : decode cX2_copyFrom 115 = .ok (.getfield 30, 3) := by decide +kernel
theorem dX2_copyFrom_118 : decode cX2_copyFrom 118 = .ok (.aload_n 0, 1) := by decide +kernel
theorem dX2_copyFrom_119 : decode cX2_copyFrom 119 = .ok (.getfield 30, 3) := by decide +kernel
theorem dX2_copyFrom_122 : decode cX2_copyFrom 122 = .ok (.invokestatic 95, 3) := by decide +kernel
theorem dX2_copyFrom_125 : decode cX2_copyFrom 125 = .ok (.aload_n 1, 1) := by decide +kernel
theorem dX2_copyFrom_126 : decode cX2_copyFrom 126 = .ok (.getfield 33, 3) := by decide +kernel
theorem dX2_copyFrom_129 : decode cX2_copyFrom 129 = .ok (.aload_n 0, 1) := by decide +kernel
theorem dX2_copyFrom_130 : decode cX2_copyFrom 130 = .ok (.getfield 33, 3) := by decide +kernel
theorem dX2_copyFrom_133 : decode cX2_copyFrom 133 = .ok (.invokestatic 99, 3) := by decide +kernel
theorem dX2_copyFrom_136 : decode cX2_copyFrom 136 = .ok (.return_, 1) := by decide +kernel
theorem dX2_endMonday_0 : decode cX2_endMonday 0 = .ok (.aload_n 0, 1) := by decide +kernel
theorem dX2_endMonday_1 : decode cX2_endMonday 1 = .ok (.getfield 41, 3) := by decide +kernel
theorem dX2_endMonday_4 : decode cX2_endMonday 4 = .ok (.sipush 200, 3) := by decide +kernel
theorem dX2_endMonday_7 : decode cX2_endMonday 7 = .ok (.if_icmp .lt 4, 3) := by decide +kernel
theorem dX2_endMonday_10 : decode cX2_endMonday 10 = .ok (.return_, 1) := by decide +kernel
theorem dX2_endMonday_11 : decode cX2_endMonday 11 = .ok (.lconst 0, 1) := by decide +kernel
theorem dX2_endMonday_12 : decode cX2_endMonday 12 = .ok (.lstore_n 1, 1) := by decide +kernel
theorem dX2_endMonday_13 : decode cX2_endMonday 13 = .ok (.iconst 0, 1) := by decide +kernel
theorem dX2_endMonday_14 : decode cX2_endMonday 14 = .ok (.istore_n 3, 1) := by decide +kernel
theorem dX2_endMonday_15 : decode cX2_endMonday 15 = .ok (.iload_n 3, 1) := by decide +kernel
theorem dX2_endMonday_16 : decode cX2_endMonday 16 = .ok (.aload_n 0, 1) := by decide +kernel
theorem dX2_endMonday_17 : decode cX2_endMonday 17 = .ok (.getfield 37, 3) := by decide +kernel
theorem dX2_endMonday_20 : decode cX2_endMonday 20 = .ok (.getfield 45, 3) := by decide +kernel
theorem dX2_endMonday_23 : decode cX2_endMonday 23 = .ok (.if_icmp .ge 25, 3) := by decide +kernel
theorem dX2_endMonday_48 : decode cX2_endMonday 48 = .ok (.aload_n 0, 1) := by decide +kernel
theorem dX2_endMonday_49 : decode cX2_endMonday 49 = .ok (.getfield 33, 3) := by decide +kernel
theorem dX2_endMonday_52 : decode cX2_endMonday 52 = .ok (.aload_n 0, 1) := by decide +kernel
theorem dX2_endMonday_53 : decode cX2_endMonday 53 = .ok (.getfield 41, 3) := by decide +kernel
theorem dX2_endMonday_56 : decode cX2_endMonday 56 = .ok (.lload_n 1, 1) := by decide +kernel
theorem dX2_endMonday_57 : decode cX2_endMonday 57 = .ok (.lastore, 1) := by decide +kernel
theorem dX2_endMonday_58 : decode cX2_endMonday 58 = .ok (.iconst 0, 1) := by decide +kernel
theorem dX2_endMonday_59 : decode cX2_endMonday 59 = .ok (.istore_n 3, 1) := by decide +kernel
theorem dX2_endMonday_60 : decode cX2_endMonday 60 = .ok (.iload_n 3, 1) := by decide +kernel
theorem dX2_endMonday_61 : decode cX2_endMonday 61 = .ok (.aload_n 0, 1) := by decide +kernel
theorem dX2_endMonday_62 : decode cX2_endMonday 62 = .ok (.getfield 37, 3) := by decide +kernel
theorem dX2_endMonday_65 : decode cX2_endMonday 65 = .ok (.getfield 65, 3) := by decide +kernel
theorem dX2_endMonday_68 : decode cX2_endMonday 68 = .ok (.if_icmp .ge 44, 3) := by decide +kernel
theorem dX2_endMonday_112 : decode cX2_endMonday 112 = .ok (.aload_n 0, 1) := by decide +kernel
theorem dX2_endMonday_113 : decode cX2_endMonday 113 = .ok (.dup, 1) := by decide +kernel
theorem dX2_endMonday_114 : decode cX2_endMonday 114 = .ok (.getfield 41, 3) := by decide +kernel
theorem dX2_endMonday_117 : decode cX2_endMonday 117 = .ok (.iconst 1, 1) := by decide +kernel
theorem dX2_endMonday_118 : decode cX2_endMonday 118 = .ok (.iadd, 1) := by decide +kernel
theorem dX2_endMonday_119 : decode cX2_endMonday 119 = .ok (.putfield 41, 3) := by decide +kernel
theorem dX2_endMonday_122 : decode cX2_endMonday 122 = .ok (.aload_n 0, 1) := by decide +kernel
theorem dX2_endMonday_123 : decode cX2_endMonday 123 = .ok (.iconst 0, 1) := by decide +kernel
theorem dX2_endMonday_124 : decode cX2_endMonday 124 = .ok (.putfield 53, 3) := by decide +kernel
theorem dX2_endMonday_127 : decode cX2_endMonday 127 = .ok (.return_, 1) := by decide +kernel
theorem dX2_freeNames_0 : decode cX2_freeNames 0 = .ok (.iconst 0, 1) := by decide +kernel
theorem dX2_freeNames_1 : decode cX2_freeNames 1 = .ok (.istore_n 1, 1) := by decide +kernel
theorem dX2_freeNames_2 : decode cX2_freeNames 2 = .ok (.iconst 0, 1) := by decide +kernel
theorem dX2_freeNames_3 : decode cX2_freeNames 3 = .ok (.istore_n 2, 1) := by decide +kernel
theorem dX2_freeNames_4 : decode cX2_freeNames 4 = .ok (.iload_n 2, 1) := by decide +kernel
theorem dX2_freeNames_5 : decode cX2_freeNames 5 = .ok (.aload_n 0, 1) := by decide +kernel
theorem dX2_freeNames_6 : decode cX2_freeNames 6 = .ok (.getfield 37, 3) := by decide +kernel
theorem dX2_freeNames_9 : decode cX2_freeNames 9 = .ok (.getfield 65, 3) := by decide +kernel
theorem dX2_freeNames_12 : decode cX2_freeNames 12 = .ok (.if_icmp .ge 25, 3) := by decide +kernel
theorem dX2_freeNames_37 : decode cX2_freeNames 37 = .ok (.iload_n 1, 1) := by decide +kernel
theorem dX2_freeNames_38 : decode cX2_freeNames 38 = .ok (.ireturn, 1) := by decide +kernel
theorem dX2_hasVotes_0 : decode cX2_hasVotes 0 = .ok (.iconst 0, 1) := by decide +kernel
theorem dX2_hasVotes_1 : decode cX2_hasVotes 1 = .ok (.istore_n 2, 1) := by decide +kernel
theorem dX2_hasVotes_2 : decode cX2_hasVotes 2 = .ok (.iconst 0, 1) := by decide +kernel
theorem dX2_hasVotes_3 : decode cX2_hasVotes 3 = .ok (.istore_n 3, 1) := by decide +kernel
theorem dX2_hasVotes_4 : decode cX2_hasVotes 4 = .ok (.iconst 1, 1) := by decide +kernel
theorem dX2_hasVotes_5 : decode cX2_hasVotes 5 = .ok (.istore 4, 2) := by decide +kernel
theorem dX2_hasVotes_7 : decode cX2_hasVotes 7 = .ok (.iconst 0, 1) := by decide +kernel
theorem dX2_hasVotes_8 : decode cX2_hasVotes 8 = .ok (.istore 5, 2) := by decide +kernel
theorem dX2_hasVotes_10 : decode cX2_hasVotes 10 = .ok (.iload 5, 2) := by decide +kernel
theorem dX2_hasVotes_12 : decode cX2_hasVotes 12 = .ok (.aload_n 0, 1) := by decide +kernel
theorem dX2_hasVotes_13 : decode cX2_hasVotes 13 = .ok (.getfield 37, 3) := by decide +kernel
theorem dX2_hasVotes_16 : decode cX2_hasVotes 16 = .ok (.getfield 45, 3) := by decide +kernel
theorem dX2_hasVotes_19 : decode cX2_hasVotes 19 = .ok (.if_icmp .ge 63, 3) := by decide +kernel
theorem dX2_hasVotes_82 : decode cX2_hasVotes 82 = .ok (.aload_n 0, 1) := by decide +kernel
theorem dX2_hasVotes_83 : decode cX2_hasVotes 83 = .ok (.getfield 62, 3) := by decide +kernel
theorem dX2_hasVotes_86 : decode cX2_hasVotes 86 = .ok (.ifCond .le 19, 3) := by decide +kernel
theorem dX2_hasVotes_105 : decode cX2_hasVotes 105 = .ok (.iconst 2, 1) := by decide +kernel
theorem dX2_hasVotes_106 : decode cX2_hasVotes 106 = .ok (.iload_n 3, 1) := by decide +kernel
theorem dX2_hasVotes_107 : decode cX2_hasVotes 107 = .ok (.imul, 1) := by decide +kernel
theorem dX2_hasVotes_108 : decode cX2_hasVotes 108 = .ok (.iload_n 2, 1) := by decide +kernel
theorem dX2_hasVotes_109 : decode cX2_hasVotes 109 = .ok (.if_icmp .le 7, 3) := by decide +kernel
theorem dX2_hasVotes_116 : decode cX2_hasVotes 116 = .ok (.iconst 0, 1) := by decide +kernel
theorem dX2_hasVotes_117 : decode cX2_hasVotes 117 = .ok (.ireturn, 1) := by decide +kernel
theorem dX2_init_0 : decode cX2_init 0 = .ok (.aload_n 0, 1) := by decide +kernel
theorem dX2_init_1 : decode cX2_init 1 = .ok (.invokespecial 3, 3) := by decide +kernel
theorem dX2_init_4 : decode cX2_init 4 = .ok (.aload_n 0, 1) := by decide +kernel
theorem dX2_init_5 : decode cX2_init 5 = .ok (.bipush 9, 2) := by decide +kernel
theorem dX2_init_7 : decode cX2_init 7 = .ok (.newarray .int, 2) := by decide +kernel
theorem dX2_init_9 : decode cX2_init 9 = .ok (.putfield 9, 3) := by decide +kernel
theorem dX2_init_12 : decode cX2_init 12 = .ok (.aload_n 0, 1) := by decide +kernel
theorem dX2_init_13 : decode cX2_init 13 = .ok (.bipush 9, 2) := by decide +kernel
theorem dX2_init_15 : decode cX2_init 15 = .ok (.newarray .int, 2) := by decide +kernel
theorem dX2_init_17 : decode cX2_init 17 = .ok (.putfield 15, 3) := by decide +kernel
theorem dX2_init_20 : decode cX2_init 20 = .ok (.aload_n 0, 1) := by decide +kernel
theorem dX2_init_21 : decode cX2_init 21 = .ok (.bipush 9, 2) := by decide +kernel
theorem dX2_init_23 : decode cX2_init 23 = .ok (.newarray .int, 2) := by decide +kernel
theorem dX2_init_25 : decode cX2_init 25 = .ok (.putfield 18, 3) := by decide +kernel
theorem dX2_init_28 : decode cX2_init 28 = .ok (.aload_n 0, 1) := by decide +kernel
theorem dX2_init_29 : decode cX2_init 29 = .ok (.bipush 9, 2) := by decide +kernel
theorem dX2_init_31 : decode cX2_init 31 = .ok (.newarray .int, 2) := by decide +kernel
theorem dX2_init_33 : decode cX2_init 33 = .ok (.putfield 21, 3) := by decide +kernel
theorem dX2_init_36 : decode cX2_init 36 = .ok (.aload_n 0, 1) := by decide +kernel
theorem dX2_init_37 : decode cX2_init 37 = .ok (.bipush 9, 2) := by decide +kernel
theorem dX2_init_39 : decode cX2_init 39 = .ok (.newarray .int, 2) := by decide +kernel
theorem dX2_init_41 : decode cX2_init 41 = .ok (.putfield 24, 3) := by decide +kernel
theorem dX2_init_44 : decode cX2_init 44 = .ok (.aload_n 0, 1) := by decide +kernel
theorem dX2_init_45 : decode cX2_init 45 = .ok (.bipush 9, 2) := by decide +kernel
theorem dX2_init_47 : decode cX2_init 47 = .ok (.newarray .int, 2) := by decide +kernel
theorem dX2_init_49 : decode cX2_init 49 = .ok (.putfield 27, 3) := by decide +kernel
theorem dX2_init_52 : decode cX2_init 52 = .ok (.aload_n 0, 1) := by decide +kernel
theorem dX2_init_53 : decode cX2_init 53 = .ok (.bipush 9, 2) := by decide +kernel
theorem dX2_init_55 : decode cX2_init 55 = .ok (.newarray .int, 2) := by decide +kernel
theorem dX2_init_57 : decode cX2_init 57 = .ok (.putfield 30, 3) := by decide +kernel
theorem dX2_init_60 : decode cX2_init 60 = .ok (.aload_n 0, 1) := by decide +kernel
theorem dX2_init_61 : decode cX2_init 61 = .ok (.sipush 200, 3) := by decide +kernel
theorem dX2_init_64 : decode cX2_init 64 = .ok (.newarray .long, 2) := by decide +kernel
theorem dX2_init_66 : decode cX2_init 66 = .ok (.putfield 33, 3) := by decide +kernel
theorem dX2_init_69 : decode cX2_init 69 = .ok (.aload_n 0, 1) := by decide +kernel
theorem dX2_init_70 : decode cX2_init 70 = .ok (.aload_n 1, 1) := by decide +kernel
theorem dX2_init_71 : decode cX2_init 71 = .ok (.putfield 37, 3) := by decide +kernel
theorem dX2_init_74 : decode cX2_init 74 = .ok (.return_, 1) := by decide +kernel
theorem dX2_passMondays_0 : decode cX2_passMondays 0 = .ok (.iconst 0, 1) := by decide +kernel
theorem dX2_passMondays_1 : decode cX2_passMondays 1 = .ok (.istore_n 2, 1) := by decide +kernel
theorem dX2_passMondays_2 : decode cX2_passMondays 2 = .ok (.iload_n 2, 1) := by decide +kernel
theorem dX2_passMondays_3 : decode cX2_passMondays 3 = .ok (.iload_n 1, 1) := by decide +kernel
theorem dX2_passMondays_4 : decode cX2_passMondays 4 = .ok (.if_icmp .ge 13, 3) := by decide +kernel
theorem dX2_passMondays_7 : decode cX2_passMondays 7 = .ok (.aload_n 0, 1) := by decide +kernel
theorem dX2_passMondays_8 : decode cX2_passMondays 8 = .ok (.invokevirtual 188, 3) := by decide +kernel
theorem dX2_passMondays_11 : decode cX2_passMondays 11 = .ok (.iinc 2 1, 3) := by decide +kernel
theorem dX2_passMondays_14 : decode cX2_passMondays 14 = .ok (.goto (-12), 3) := by decide +kernel
theorem dX2_passMondays_17 : decode cX2_passMondays 17 = .ok (.return_, 1) := by decide +kernel
theorem dX3_init_0 : decode cX3_init 0 = .ok (.aload_n 0, 1) := by decide +kernel
theorem dX3_init_1 : decode cX3_init 1 = .ok (.invokespecial 3, 3) := by decide +kernel
theorem dX3_init_4 : decode cX3_init 4 = .ok (.aload_n 0, 1) := by decide +kernel
theorem dX3_init_5 : decode cX3_init 5 = .ok (.iconst (-1), 1) := by decide +kernel
theorem dX3_init_6 : decode cX3_init 6 = .ok (.putfield 9, 3) := by decide +kernel
theorem dX3_init_9 : decode cX3_init 9 = .ok (.aload_n 0, 1) := by decide +kernel
theorem dX3_init_10 : decode cX3_init 10 = .ok (.aload_n 1, 1) := by decide +kernel
theorem dX3_init_11 : decode cX3_init 11 = .ok (.putfield 15, 3) := by decide +kernel
theorem dX3_init_14 : decode cX3_init 14 = .ok (.aload_n 0, 1) := by decide +kernel
theorem dX3_init_15 : decode cX3_init 15 = .ok (.aload_n 2, 1) := by decide +kernel
theorem dX3_init_16 : decode cX3_init 16 = .ok (.putfield 19, 3) := by decide +kernel
theorem dX3_init_19 : decode cX3_init 19 = .ok (.return_, 1) := by decide +kernel
theorem dX4_init_0 : decode cX4_init 0 = .ok (.aload_n 0, 1) := by decide +kernel
theorem dX4_init_1 : decode cX4_init 1 = .ok (.invokespecial 3, 3) := by decide +kernel
theorem dX4_init_4 : decode cX4_init 4 = .ok (.aload_n 0, 1) := by decide +kernel
theorem dX4_init_5 : decode cX4_init 5 = .ok (.bipush 40, 2) := by decide +kernel
theorem dX4_init_7 : decode cX4_init 7 = .ok (.newarray .int, 2) := by decide +kernel
theorem dX4_init_9 : decode cX4_init 9 = .ok (.putfield 11, 3) := by decide +kernel
theorem dX4_init_12 : decode cX4_init 12 = .ok (.aload_n 0, 1) := by decide +kernel
theorem dX4_init_13 : decode cX4_init 13 = .ok (.bipush 40, 2) := by decide +kernel
theorem dX4_init_15 : decode cX4_init 15 = .ok (.newarray .int, 2) := by decide +kernel
theorem dX4_init_17 : decode cX4_init 17 = .ok (.putfield 15, 3) := by decide +kernel
theorem dX4_init_20 : decode cX4_init 20 = .ok (.aload_n 0, 1) := by decide +kernel
theorem dX4_init_21 : decode cX4_init 21 = .ok (.bipush 40, 2) := by decide +kernel
theorem dX4_init_23 : decode cX4_init 23 = .ok (.newarray .int, 2) := by decide +kernel
theorem dX4_init_25 : decode cX4_init 25 = .ok (.putfield 18, 3) := by decide +kernel
theorem dX4_init_28 : decode cX4_init 28 = .ok (.aload_n 0, 1) := by decide +kernel
theorem dX4_init_29 : decode cX4_init 29 = .ok (.aload_n 1, 1) := by decide +kernel
theorem dX4_init_30 : decode cX4_init 30 = .ok (.putfield 21, 3) := by decide +kernel
theorem dX4_init_33 : decode cX4_init 33 = .ok (.aload_n 0, 1) := by decide +kernel
theorem dX4_init_34 : decode cX4_init 34 = .ok (.aload_n 2, 1) := by decide +kernel
theorem dX4_init_35 : decode cX4_init 35 = .ok (.putfield 25, 3) := by decide +kernel
theorem dX4_init_38 : decode cX4_init 38 = .ok (.return_, 1) := by decide +kernel
theorem dX4_judge_0 : decode cX4_judge 0 = .ok (.aload_n 0, 1) := by decide +kernel
theorem dX4_judge_1 : decode cX4_judge 1 = .ok (.iconst 1, 1) := by decide +kernel
theorem dX4_judge_2 : decode cX4_judge 2 = .ok (.putfield 109, 3) := by decide +kernel
theorem dX4_judge_5 : decode cX4_judge 5 = .ok (.aload_n 0, 1) := by decide +kernel
theorem dX4_judge_6 : decode cX4_judge 6 = .ok (.iconst 0, 1) := by decide +kernel
theorem dX4_judge_7 : decode cX4_judge 7 = .ok (.putfield 113, 3) := by decide +kernel
theorem dX4_judge_10 : decode cX4_judge 10 = .ok (.aload_n 0, 1) := by decide +kernel
theorem dX4_judge_11 : decode cX4_judge 11 = .ok (.iconst 0, 1) := by decide +kernel
theorem dX4_judge_12 : decode cX4_judge 12 = .ok (.putfield 116, 3) := by decide +kernel
theorem dX4_judge_15 : decode cX4_judge 15 = .ok (.iconst 0, 1) := by decide +kernel
theorem dX4_judge_16 : decode cX4_judge 16 = .ok (.istore_n 2, 1) := by decide +kernel
theorem dX4_judge_17 : decode cX4_judge 17 = .ok (.iload_n 2, 1) := by decide +kernel
theorem dX4_judge_18 : decode cX4_judge 18 = .ok (.aload_n 0, 1) := by decide +kernel
theorem dX4_judge_19 : decode cX4_judge 19 = .ok (.getfield 29, 3) := by decide +kernel
theorem dX4_judge_22 : decode cX4_judge 22 = .ok (.if_icmp .ge 108, 3) := by decide +kernel
theorem dX4_judge_130 : decode cX4_judge 130 = .ok (.aload_n 0, 1) := by decide +kernel
theorem dX4_judge_131 : decode cX4_judge 131 = .ok (.aload_n 1, 1) := by decide +kernel
theorem dX4_judge_132 : decode cX4_judge 132 = .ok (.getfield 129, 3) := by decide +kernel
theorem dX4_judge_135 : decode cX4_judge 135 = .ok (.putfield 131, 3) := by decide +kernel
theorem dX4_judge_138 : decode cX4_judge 138 = .ok (.aload_n 0, 1) := by decide +kernel
theorem dX4_judge_139 : decode cX4_judge 139 = .ok (.aload_n 1, 1) := by decide +kernel
theorem dX4_judge_140 : decode cX4_judge 140 = .ok (.getfield 134, 3) := by decide +kernel
theorem dX4_judge_143 : decode cX4_judge 143 = .ok (.putfield 137, 3) := by decide +kernel
theorem dX4_judge_146 : decode cX4_judge 146 = .ok (.aload_n 0, 1) := by decide +kernel
theorem dX4_judge_147 : decode cX4_judge 147 = .ok (.getfield 113, 3) := by decide +kernel
theorem dX4_judge_150 : decode cX4_judge 150 = .ok (.ifCond .ne 7, 3) := by decide +kernel
theorem dX4_judge_153 : decode cX4_judge 153 = .ok (.iconst (-1), 1) := by decide +kernel
theorem dX4_judge_154 : decode cX4_judge 154 = .ok (.goto 7, 3) := by decide +kernel
theorem dX4_judge_161 : decode cX4_judge 161 = .ok (.ireturn, 1) := by decide +kernel
theorem dX4_read_0 : decode cX4_read 0 = .ok (.aload_n 0, 1) := by decide +kernel
theorem dX4_read_1 : decode cX4_read 1 = .ok (.iconst 0, 1) := by decide +kernel
theorem dX4_read_2 : decode cX4_read 2 = .ok (.putfield 29, 3) := by decide +kernel
theorem dX4_read_5 : decode cX4_read 5 = .ok (.aload_n 0, 1) := by decide +kernel
theorem dX4_read_6 : decode cX4_read 6 = .ok (.getfield 21, 3) := by decide +kernel
theorem dX4_read_9 : decode cX4_read 9 = .ok (.sipush 400, 3) := by decide +kernel
theorem dX4_read_12 : decode cX4_read 12 = .ok (.invokevirtual 33, 3) := by decide +kernel
theorem dX4_read_15 : decode cX4_read 15 = .ok (.iconst 0, 1) := by decide +kernel
theorem dX4_read_16 : decode cX4_read 16 = .ok (.istore_n 1, 1) := by decide +kernel
theorem dX4_read_17 : decode cX4_read 17 = .ok (.iload_n 1, 1) := by decide +kernel
theorem dX4_read_18 : decode cX4_read 18 = .ok (.bipush 40, 2) := by decide +kernel
theorem dX4_read_20 : decode cX4_read 20 = .ok (.if_icmp .gt 40, 3) := by decide +kernel
theorem dX4_read_23 : decode cX4_read 23 = .ok (.aload_n 0, 1) := by decide +kernel
theorem dX4_read_24 : decode cX4_read 24 = .ok (.getfield 21, 3) := by decide +kernel
theorem dX4_read_27 : decode cX4_read 27 = .ok (.getfield 39, 3) := by decide +kernel
theorem dX4_read_30 : decode cX4_read 30 = .ok (.ifCond .eq 30, 3) := by decide +kernel
theorem dX4_read_60 : decode cX4_read 60 = .ok (.iconst 1, 1) := by decide +kernel
theorem dX4_read_61 : decode cX4_read 61 = .ok (.ireturn, 1) := by decide +kernel
theorem dX5_copyFrom_0 : decode cX5_copyFrom 0 = .ok (.aload_n 0, 1) := by decide +kernel
theorem dX5_copyFrom_1 : decode cX5_copyFrom 1 = .ok (.aload_n 1, 1) := by decide +kernel
theorem dX5_copyFrom_2 : decode cX5_copyFrom 2 = .ok (.getfield 32, 3) := by decide +kernel
theorem dX5_copyFrom_5 : decode cX5_copyFrom 5 = .ok (.putfield 32, 3) := by decide +kernel
theorem dX5_copyFrom_8 : decode cX5_copyFrom 8 = .ok (.aload_n 0, 1) := by decide +kernel
theorem dX5_copyFrom_9 : decode cX5_copyFrom 9 = .ok (.aload_n 1, 1) := by decide +kernel
theorem dX5_copyFrom_10 : decode cX5_copyFrom 10 = .ok (.getfield 36, 3) := by decide +kernel
theorem dX5_copyFrom_13 : decode cX5_copyFrom 13 = .ok (.putfield 36, 3) := by decide +kernel
theorem dX5_copyFrom_16 : decode cX5_copyFrom 16 = .ok (.aload_n 1, 1) := by decide +kernel
theorem dX5_copyFrom_17 : decode cX5_copyFrom 17 = .ok (.getfield 11, 3) := by decide +kernel
theorem dX5_copyFrom_20 : decode cX5_copyFrom 20 = .ok (.aload_n 0, 1) := by decide +kernel
theorem dX5_copyFrom_21 : decode cX5_copyFrom 21 = .ok (.getfield 11, 3) := by decide +kernel
theorem dX5_copyFrom_24 : decode cX5_copyFrom 24 = .ok (.invokestatic 39, 3) := by decide +kernel
theorem dX5_copyFrom_27 : decode cX5_copyFrom 27 = .ok (.aload_n 1, 1) := by decide +kernel
theorem dX5_copyFrom_28 : decode cX5_copyFrom 28 = .ok (.getfield 15, 3) := by decide +kernel
theorem dX5_copyFrom_31 : decode cX5_copyFrom 31 = .ok (.aload_n 0, 1) := by decide +kernel
theorem dX5_copyFrom_32 : decode cX5_copyFrom 32 = .ok (.getfield 15, 3) := by decide +kernel
theorem dX5_copyFrom_35 : decode cX5_copyFrom 35 = .ok (.invokestatic 39, 3) := by decide +kernel
theorem dX5_copyFrom_38 : decode cX5_copyFrom 38 = .ok (.aload_n 1, 1) := by decide +kernel
theorem dX5_copyFrom_39 : decode cX5_copyFrom 39 = .ok (.getfield 18, 3) := by decide +kernel
theorem dX5_copyFrom_42 : decode cX5_copyFrom 42 = .ok (.aload_n 0, 1) := by decide +kernel
theorem dX5_copyFrom_43 : decode cX5_copyFrom 43 = .ok (.getfield 18, 3) := by decide +kernel
theorem dX5_copyFrom_46 : decode cX5_copyFrom 46 = .ok (.invokestatic 39, 3) := by decide +kernel
theorem dX5_copyFrom_49 : decode cX5_copyFrom 49 = .ok (.return_, 1) := by decide +kernel
theorem dX5_init_0 : decode cX5_init 0 = .ok (.aload_n 0, 1) := by decide +kernel
theorem dX5_init_1 : decode cX5_init 1 = .ok (.invokespecial 5, 3) := by decide +kernel
theorem dX5_init_4 : decode cX5_init 4 = .ok (.aload_n 0, 1) := by decide +kernel
theorem dX5_init_5 : decode cX5_init 5 = .ok (.bipush 40, 2) := by decide +kernel
theorem dX5_init_7 : decode cX5_init 7 = .ok (.newarray .int, 2) := by decide +kernel
theorem dX5_init_9 : decode cX5_init 9 = .ok (.putfield 11, 3) := by decide +kernel
theorem dX5_init_12 : decode cX5_init 12 = .ok (.aload_n 0, 1) := by decide +kernel
theorem dX5_init_13 : decode cX5_init 13 = .ok (.bipush 40, 2) := by decide +kernel
theorem dX5_init_15 : decode cX5_init 15 = .ok (.newarray .int, 2) := by decide +kernel
theorem dX5_init_17 : decode cX5_init 17 = .ok (.putfield 15, 3) := by decide +kernel
theorem dX5_init_20 : decode cX5_init 20 = .ok (.aload_n 0, 1) := by decide +kernel
theorem dX5_init_21 : decode cX5_init 21 = .ok (.bipush 40, 2) := by decide +kernel
theorem dX5_init_23 : decode cX5_init 23 = .ok (.newarray .int, 2) := by decide +kernel
theorem dX5_init_25 : decode cX5_init 25 = .ok (.putfield 18, 3) := by decide +kernel
theorem dX5_init_28 : decode cX5_init 28 = .ok (.aload_n 0, 1) := by decide +kernel
theorem dX5_init_29 : decode cX5_init 29 = .ok (.bipush 40, 2) := by decide +kernel
theorem dX5_init_31 : decode cX5_init 31 = .ok (.newarray .int, 2) := by decide +kernel
theorem dX5_init_33 : decode cX5_init 33 = .ok (.putfield 21, 3) := by decide +kernel
theorem dX5_init_36 : decode cX5_init 36 = .ok (.aload_n 0, 1) := by decide +kernel
theorem dX5_init_37 : decode cX5_init 37 = .ok (.aload_n 1, 1) := by decide +kernel
theorem dX5_init_38 : decode cX5_init 38 = .ok (.putfield 24, 3) := by decide +kernel
theorem dX5_init_41 : decode cX5_init 41 = .ok (.aload_n 0, 1) := by decide +kernel
theorem dX5_init_42 : decode cX5_init 42 = .ok (.aload_n 2, 1) := by decide +kernel
theorem dX5_init_43 : decode cX5_init 43 = .ok (.putfield 28, 3) := by decide +kernel
theorem dX5_init_46 : decode cX5_init 46 = .ok (.return_, 1) := by decide +kernel
theorem dX5_leafAhead_0 : decode cX5_leafAhead 0 = .ok (.aload_n 0, 1) := by decide +kernel
theorem dX5_leafAhead_1 : decode cX5_leafAhead 1 = .ok (.getfield 24, 3) := by decide +kernel
theorem dX5_leafAhead_4 : decode cX5_leafAhead 4 = .ok (.ldc 96, 2) := by decide +kernel
theorem dX5_leafAhead_6 : decode cX5_leafAhead 6 = .ok (.invokevirtual 64, 3) := by decide +kernel
theorem dX5_leafAhead_9 : decode cX5_leafAhead 9 = .ok (.ifCond .eq 5, 3) := by decide +kernel
theorem dX5_leafAhead_14 : decode cX5_leafAhead 14 = .ok (.aload_n 0, 1) := by decide +kernel
theorem dX5_leafAhead_15 : decode cX5_leafAhead 15 = .ok (.getfield 24, 3) := by decide +kernel
theorem dX5_leafAhead_18 : decode cX5_leafAhead 18 = .ok (.ldc 98, 2) := by decide +kernel
theorem dX5_leafAhead_20 : decode cX5_leafAhead 20 = .ok (.invokevirtual 64, 3) := by decide +kernel
theorem dX5_leafAhead_23 : decode cX5_leafAhead 23 = .ok (.ifCond .eq 5, 3) := by decide +kernel
theorem dX5_leafAhead_28 : decode cX5_leafAhead 28 = .ok (.aload_n 0, 1) := by decide +kernel
theorem dX5_leafAhead_29 : decode cX5_leafAhead 29 = .ok (.getfield 24, 3) := by decide +kernel
theorem dX5_leafAhead_32 : decode cX5_leafAhead 32 = .ok (.ldc 100, 2) := by decide +kernel
theorem dX5_leafAhead_34 : decode cX5_leafAhead 34 = .ok (.invokevirtual 64, 3) := by decide +kernel
theorem dX5_leafAhead_37 : decode cX5_leafAhead 37 = .ok (.ifCond .eq 5, 3) := by decide +kernel
theorem dX5_leafAhead_42 : decode cX5_leafAhead 42 = .ok (.aload_n 0, 1) := by decide +kernel
theorem dX5_leafAhead_43 : decode cX5_leafAhead 43 = .ok (.getfield 24, 3) := by decide +kernel
theorem dX5_leafAhead_46 : decode cX5_leafAhead 46 = .ok (.ldc 102, 2) := by decide +kernel
theorem dX5_leafAhead_48 : decode cX5_leafAhead 48 = .ok (.invokevirtual 64, 3) := by decide +kernel
theorem dX5_leafAhead_51 : decode cX5_leafAhead 51 = .ok (.ifCond .eq 6, 3) := by decide +kernel
theorem dX5_leafAhead_57 : decode cX5_leafAhead 57 = .ok (.aload_n 0, 1) := by decide +kernel
theorem dX5_leafAhead_58 : decode cX5_leafAhead 58 = .ok (.getfield 24, 3) := by decide +kernel
theorem dX5_leafAhead_61 : decode cX5_leafAhead 61 = .ok (.ldc 104, 2) := by decide +kernel
theorem dX5_leafAhead_63 : decode cX5_leafAhead 63 = .ok (.invokevirtual 64, 3) := by decide +kernel
theorem dX5_leafAhead_66 : decode cX5_leafAhead 66 = .ok (.ifCond .eq 6, 3) := by decide +kernel
theorem dX5_leafAhead_72 : decode cX5_leafAhead 72 = .ok (.aload_n 0, 1) := by decide +kernel
theorem dX5_leafAhead_73 : decode cX5_leafAhead 73 = .ok (.getfield 24, 3) := by decide +kernel
theorem dX5_leafAhead_76 : decode cX5_leafAhead 76 = .ok (.ldc 106, 2) := by decide +kernel
theorem dX5_leafAhead_78 : decode cX5_leafAhead 78 = .ok (.invokevirtual 64, 3) := by decide +kernel
theorem dX5_leafAhead_81 : decode cX5_leafAhead 81 = .ok (.ifCond .eq 6, 3) := by decide +kernel
theorem dX5_leafAhead_87 : decode cX5_leafAhead 87 = .ok (.aload_n 0, 1) := by decide +kernel
theorem dX5_leafAhead_88 : decode cX5_leafAhead 88 = .ok (.getfield 24, 3) := by decide +kernel
theorem dX5_leafAhead_91 : decode cX5_leafAhead 91 = .ok (.ldc 108, 2) := by decide +kernel
theorem dX5_leafAhead_93 : decode cX5_leafAhead 93 = .ok (.invokevirtual 64, 3) := by decide +kernel
theorem dX5_leafAhead_96 : decode cX5_leafAhead 96 = .ok (.ifCond .eq 6, 3) := by decide +kernel
theorem dX5_leafAhead_102 : decode cX5_leafAhead 102 = .ok (.aload_n 0, 1) := by decide +kernel
theorem dX5_leafAhead_103 : decode cX5_leafAhead 103 = .ok (.getfield 24, 3) := by decide +kernel
theorem dX5_leafAhead_106 : decode cX5_leafAhead 106 = .ok (.ldc 110, 2) := by decide +kernel
theorem dX5_leafAhead_108 : decode cX5_leafAhead 108 = .ok (.invokevirtual 64, 3) := by decide +kernel
theorem dX5_leafAhead_111 : decode cX5_leafAhead 111 = .ok (.ifCond .eq 6, 3) := by decide +kernel
theorem dX5_leafAhead_117 : decode cX5_leafAhead 117 = .ok (.aload_n 0, 1) := by decide +kernel
theorem dX5_leafAhead_118 : decode cX5_leafAhead 118 = .ok (.getfield 24, 3) := by decide +kernel
theorem dX5_leafAhead_121 : decode cX5_leafAhead 121 = .ok (.ldc 112, 2) := by decide +kernel
theorem dX5_leafAhead_123 : decode cX5_leafAhead 123 = .ok (.invokevirtual 64, 3) := by decide +kernel
theorem dX5_leafAhead_126 : decode cX5_leafAhead 126 = .ok (.ifCond .eq 8, 3) := by decide +kernel
theorem dX5_leafAhead_134 : decode cX5_leafAhead 134 = .ok (.iconst (-1), 1) := by decide +kernel
theorem dX5_leafAhead_135 : decode cX5_leafAhead 135 = .ok (.ireturn, 1) := by decide +kernel
theorem dX5_read_0 : decode cX5_read 0 = .ok (.aload_n 0, 1) := by decide +kernel
theorem dX5_read_1 : decode cX5_read 1 = .ok (.iconst 0, 1) := by decide +kernel
theorem dX5_read_2 : decode cX5_read 2 = .ok (.putfield 32, 3) := by decide +kernel
theorem dX5_read_5 : decode cX5_read 5 = .ok (.aload_n 0, 1) := by decide +kernel
theorem dX5_read_6 : decode cX5_read 6 = .ok (.iconst 0, 1) := by decide +kernel
theorem dX5_read_7 : decode cX5_read 7 = .ok (.putfield 36, 3) := by decide +kernel
theorem dX5_read_10 : decode cX5_read 10 = .ok (.aload_n 0, 1) := by decide +kernel
theorem dX5_read_11 : decode cX5_read 11 = .ok (.getfield 24, 3) := by decide +kernel
theorem dX5_read_14 : decode cX5_read 14 = .ok (.sipush 200, 3) := by decide +kernel
theorem dX5_read_17 : decode cX5_read 17 = .ok (.invokevirtual 43, 3) := by decide +kernel
theorem dX5_read_20 : decode cX5_read 20 = .ok (.aload_n 0, 1) := by decide +kernel
theorem dX5_read_21 : decode cX5_read 21 = .ok (.iconst 1, 1) := by decide +kernel
theorem dX5_read_22 : decode cX5_read 22 = .ok (.invokevirtual 49, 3) := by decide +kernel
theorem dX5_read_25 : decode cX5_read 25 = .ok (.ifCond .ne 5, 3) := by decide +kernel
theorem dX5_read_28 : decode cX5_read 28 = .ok (.iconst 0, 1) := by decide +kernel
theorem dX5_read_29 : decode cX5_read 29 = .ok (.ireturn, 1) := by decide +kernel
theorem dX5_readAll_0 : decode cX5_readAll 0 = .ok (.aload_n 0, 1) := by decide +kernel
theorem dX5_readAll_1 : decode cX5_readAll 1 = .ok (.iload_n 1, 1) := by decide +kernel
theorem dX5_readAll_2 : decode cX5_readAll 2 = .ok (.invokevirtual 75, 3) := by decide +kernel
theorem dX5_readAll_5 : decode cX5_readAll 5 = .ok (.istore_n 2, 1) := by decide +kernel
theorem dX5_readAll_6 : decode cX5_readAll 6 = .ok (.iconst 0, 1) := by decide +kernel
theorem dX5_readAll_7 : decode cX5_readAll 7 = .ok (.istore_n 3, 1) := by decide +kernel
theorem dX5_readAll_8 : decode cX5_readAll 8 = .ok (.iload_n 3, 1) := by decide +kernel
theorem dX5_readAll_9 : decode cX5_readAll 9 = .ok (.bipush 20, 2) := by decide +kernel
theorem dX5_readAll_11 : decode cX5_readAll 11 = .ok (.if_icmp .ge 56, 3) := by decide +kernel
theorem dX5_readAll_14 : decode cX5_readAll 14 = .ok (.iload_n 2, 1) := by decide +kernel
theorem dX5_readAll_15 : decode cX5_readAll 15 = .ok (.ifCond .eq 52, 3) := by decide +kernel
theorem dX5_readAll_67 : decode cX5_readAll 67 = .ok (.iload_n 2, 1) := by decide +kernel
theorem dX5_readAll_68 : decode cX5_readAll 68 = .ok (.ireturn, 1) := by decide +kernel
theorem dX5_readCond_0 : decode cX5_readCond 0 = .ok (.aload_n 0, 1) := by decide +kernel
theorem dX5_readCond_1 : decode cX5_readCond 1 = .ok (.iload_n 1, 1) := by decide +kernel
theorem dX5_readCond_2 : decode cX5_readCond 2 = .ok (.invokevirtual 59, 3) := by decide +kernel
theorem dX5_readCond_5 : decode cX5_readCond 5 = .ok (.istore_n 2, 1) := by decide +kernel
theorem dX5_readCond_6 : decode cX5_readCond 6 = .ok (.iconst 0, 1) := by decide +kernel
theorem dX5_readCond_7 : decode cX5_readCond 7 = .ok (.istore_n 3, 1) := by decide +kernel
theorem dX5_readCond_8 : decode cX5_readCond 8 = .ok (.iload_n 3, 1) := by decide +kernel
theorem dX5_readCond_9 : decode cX5_readCond 9 = .ok (.bipush 20, 2) := by decide +kernel
theorem dX5_readCond_11 : decode cX5_readCond 11 = .ok (.if_icmp .ge 56, 3) := by decide +kernel
theorem dX5_readCond_14 : decode cX5_readCond 14 = .ok (.iload_n 2, 1) := by decide +kernel
theorem dX5_readCond_15 : decode cX5_readCond 15 = .ok (.ifCond .eq 52, 3) := by decide +kernel
theorem dX5_readCond_67 : decode cX5_readCond 67 = .ok (.iload_n 2, 1) := by decide +kernel
