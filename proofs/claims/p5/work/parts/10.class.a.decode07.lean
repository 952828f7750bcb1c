theorem dX2_hasFled_8 : decode cX2_hasFled 8 = .ok (.ireturn, 1) := by decide +kernel
theorem dX2_hasGone_0 : decode cX2_hasGone 0 = .ok (.iload_n 1, 1) := by decide +kernel
theorem dX2_hasGone_1 : decode cX2_hasGone 1 = .ok (.ifCond .lt 15, 3) := by decide +kernel
theorem dX2_hasGone_4 : decode cX2_hasGone 4 = .ok (.iload_n 1, 1) := by decide +kernel
theorem dX2_hasGone_5 : decode cX2_hasGone 5 = .ok (.aload_n 0, 1) := by decide +kernel
theorem dX2_hasGone_6 : decode cX2_hasGone 6 = .ok (.getfield 41, 3) := by decide +kernel
theorem dX2_hasGone_9 : decode cX2_hasGone 9 = .ok (.if_icmp .ge 7, 3) := by decide +kernel
theorem dX2_hasGone_12 : decode cX2_hasGone 12 = .ok (.iconst 1, 1) := by decide +kernel
theorem dX2_hasGone_13 : decode cX2_hasGone 13 = .ok (.goto 4, 3) := by decide +kernel
theorem dX2_hasGone_16 : decode cX2_hasGone 16 = .ok (.iconst 0, 1) := by decide +kernel
theorem dX2_hasGone_17 : decode cX2_hasGone 17 = .ok (.ireturn, 1) := by decide +kernel
theorem dX2_hasVotes_0 : decode cX2_hasVotes 0 = .ok (.iconst 0, 1) := by decide +kernel
theorem dX2_hasVotes_1 : decode cX2_hasVotes 1 = .ok (.istore_n 2, 1) := by decide +kernel
theorem dX2_hasVotes_2 : decode cX2_hasVotes 2 = .ok (.iconst 0, 1) := by decide +kernel
theorem dX2_hasVotes_3 : decode cX2_hasVotes 3 = .ok (.istore_n 3, 1) := by decide +kernel
theorem dX2_hasVotes_4 : decode cX2_hasVotes 4 = .ok (.iconst 1, 1) := by decide +kernel
theorem dX2_hasVotes_5 : decode cX2_hasVotes 5 = .ok (.istore 4, 2) := by decide +kernel
theorem dX2_hasVotes_7 : decode cX2_hasVotes 7 = .ok (.iconst 0, 1) := by decide +kernel
theorem dX2_hasVotes_8 : decode cX2_hasVotes 8 = .ok (.istore 5, 2) := by decide +kernel
theorem dX2_hasVotes_10 : decode cX2_hasVotes 10 = .ok (.iload 5, 2) := by decide +kernel
theorem dX2_hasVotes_12 : decode cX2_hasVotes 12 = .ok (.aload_n 0, 1) := by decide +kernel
theorem dX2_hasVotes_13 : decode cX2_hasVotes 13 = .ok (.getfield 37, 3) := by decide +kernel
theorem dX2_hasVotes_16 : decode cX2_hasVotes 16 = .ok (.getfield 45, 3) := by decide +kernel
theorem dX2_hasVotes_19 : decode cX2_hasVotes 19 = .ok (.if_icmp .ge 63, 3) := by decide +kernel
theorem dX2_hasVotes_22 : decode cX2_hasVotes 22 = .ok (.aload_n 0, 1) := by decide +kernel
theorem dX2_hasVotes_23 : decode cX2_hasVotes 23 = .ok (.iload 5, 2) := by decide +kernel
theorem dX2_hasVotes_25 : decode cX2_hasVotes 25 = .ok (.invokevirtual 116, 3) := by decide +kernel
theorem dX2_hasVotes_28 : decode cX2_hasVotes 28 = .ok (.ifCond .eq 27, 3) := by decide +kernel
theorem dX2_hasVotes_31 : decode cX2_hasVotes 31 = .ok (.iload 4, 2) := by decide +kernel
theorem dX2_hasVotes_33 : decode cX2_hasVotes 33 = .ok (.ifCond .eq 16, 3) := by decide +kernel
theorem dX2_hasVotes_36 : decode cX2_hasVotes 36 = .ok (.iload_n 1, 1) := by decide +kernel
theorem dX2_hasVotes_37 : decode cX2_hasVotes 37 = .ok (.iload 5, 2) := by decide +kernel
theorem dX2_hasVotes_39 : decode cX2_hasVotes 39 = .ok (.invokestatic 102, 3) := by decide +kernel
theorem dX2_hasVotes_42 : decode cX2_hasVotes 42 = .ok (.ifCond .eq 7, 3) := by decide +kernel
theorem dX2_hasVotes_45 : decode cX2_hasVotes 45 = .ok (.iconst 1, 1) := by decide +kernel
theorem dX2_hasVotes_46 : decode cX2_hasVotes 46 = .ok (.goto 4, 3) := by decide +kernel
theorem dX2_hasVotes_49 : decode cX2_hasVotes 49 = .ok (.iconst 0, 1) := by decide +kernel
theorem dX2_hasVotes_50 : decode cX2_hasVotes 50 = .ok (.istore 4, 2) := by decide +kernel
theorem dX2_hasVotes_52 : decode cX2_hasVotes 52 = .ok (.goto 24, 3) := by decide +kernel
theorem dX2_hasVotes_55 : decode cX2_hasVotes 55 = .ok (.aload_n 0, 1) := by decide +kernel
theorem dX2_hasVotes_56 : decode cX2_hasVotes 56 = .ok (.iload 5, 2) := by decide +kernel
theorem dX2_hasVotes_58 : decode cX2_hasVotes 58 = .ok (.invokevirtual 106, 3) := by decide +kernel
theorem dX2_hasVotes_61 : decode cX2_hasVotes 61 = .ok (.ifCond .eq 15, 3) := by decide +kernel
theorem dX2_hasVotes_64 : decode cX2_hasVotes 64 = .ok (.iinc 2 1, 3) := by decide +kernel
theorem dX2_hasVotes_67 : decode cX2_hasVotes 67 = .ok (.iload_n 3, 1) := by decide +kernel
theorem dX2_hasVotes_68 : decode cX2_hasVotes 68 = .ok (.iload_n 1, 1) := by decide +kernel
theorem dX2_hasVotes_69 : decode cX2_hasVotes 69 = .ok (.iload 5, 2) := by decide +kernel
theorem dX2_hasVotes_71 : decode cX2_hasVotes 71 = .ok (.ishr, 1) := by decide +kernel
theorem dX2_hasVotes_72 : decode cX2_hasVotes 72 = .ok (.iconst 1, 1) := by decide +kernel
theorem dX2_hasVotes_73 : decode cX2_hasVotes 73 = .ok (.iand, 1) := by decide +kernel
theorem dX2_hasVotes_74 : decode cX2_hasVotes 74 = .ok (.iadd, 1) := by decide +kernel
theorem dX2_hasVotes_75 : decode cX2_hasVotes 75 = .ok (.istore_n 3, 1) := by decide +kernel
theorem dX2_hasVotes_76 : decode cX2_hasVotes 76 = .ok (.iinc 5 1, 3) := by decide +kernel
theorem dX2_hasVotes_79 : decode cX2_hasVotes 79 = .ok (.goto (-69), 3) := by decide +kernel
theorem dX2_hasVotes_82 : decode cX2_hasVotes 82 = .ok (.aload_n 0, 1) := by decide +kernel
theorem dX2_hasVotes_83 : decode cX2_hasVotes 83 = .ok (.getfield 62, 3) := by decide +kernel
theorem dX2_hasVotes_86 : decode cX2_hasVotes 86 = .ok (.ifCond .le 19, 3) := by decide +kernel
theorem dX2_hasVotes_89 : decode cX2_hasVotes 89 = .ok (.iinc 2 1, 3) := by decide +kernel
theorem dX2_hasVotes_92 : decode cX2_hasVotes 92 = .ok (.iload_n 3, 1) := by decide +kernel
theorem dX2_hasVotes_93 : decode cX2_hasVotes 93 = .ok (.iload 4, 2) := by decide +kernel
theorem dX2_hasVotes_95 : decode cX2_hasVotes 95 = .ok (.ifCond .eq 7, 3) := by decide +kernel
theorem dX2_hasVotes_98 : decode cX2_hasVotes 98 = .ok (.iconst 1, 1) := by decide +kernel
theorem dX2_hasVotes_99 : decode cX2_hasVotes 99 = .ok (.goto 4, 3) := by decide +kernel
theorem dX2_hasVotes_102 : decode cX2_hasVotes 102 = .ok (.iconst 0, 1) := by decide +kernel
theorem dX2_hasVotes_103 : decode cX2_hasVotes 103 = .ok (.iadd, 1) := by decide +kernel
theorem dX2_hasVotes_104 : decode cX2_hasVotes 104 = .ok (.istore_n 3, 1) := by decide +kernel
theorem dX2_hasVotes_105 : decode cX2_hasVotes 105 = .ok (.iconst 2, 1) := by decide +kernel
theorem dX2_hasVotes_106 : decode cX2_hasVotes 106 = .ok (.iload_n 3, 1) := by decide +kernel
theorem dX2_hasVotes_107 : decode cX2_hasVotes 107 = .ok (.imul, 1) := by decide +kernel
theorem dX2_hasVotes_108 : decode cX2_hasVotes 108 = .ok (.iload_n 2, 1) := by decide +kernel
theorem dX2_hasVotes_109 : decode cX2_hasVotes 109 = .ok (.if_icmp .le 7, 3) := by decide +kernel
theorem dX2_hasVotes_112 : decode cX2_hasVotes 112 = .ok (.iconst 1, 1) := by decide +kernel
theorem dX2_hasVotes_113 : decode cX2_hasVotes 113 = .ok (.goto 4, 3) := by decide +kernel
theorem dX2_hasVotes_116 : decode cX2_hasVotes 116 = .ok (.iconst 0, 1) := by decide +kernel
theorem dX2_hasVotes_117 : decode cX2_hasVotes 117 = .ok (.ireturn, 1) := by decide +kernel
theorem dX2_holderThen_0 : decode cX2_holderThen 0 = .ok (.iconst 0, 1) := by decide +kernel
theorem dX2_holderThen_1 : decode cX2_holderThen 1 = .ok (.istore_n 3, 1) := by decide +kernel
theorem dX2_holderThen_2 : decode cX2_holderThen 2 = .ok (.iload_n 3, 1) := by decide +kernel
theorem dX2_holderThen_3 : decode cX2_holderThen 3 = .ok (.aload_n 0, 1) := by decide +kernel
theorem dX2_holderThen_4 : decode cX2_holderThen 4 = .ok (.getfield 37, 3) := by decide +kernel
theorem dX2_holderThen_7 : decode cX2_holderThen 7 = .ok (.getfield 45, 3) := by decide +kernel
theorem dX2_holderThen_10 : decode cX2_holderThen 10 = .ok (.if_icmp .ge 21, 3) := by decide +kernel
theorem dX2_holderThen_13 : decode cX2_holderThen 13 = .ok (.aload_n 0, 1) := by decide +kernel
theorem dX2_holderThen_14 : decode cX2_holderThen 14 = .ok (.iload_n 3, 1) := by decide +kernel
theorem dX2_holderThen_15 : decode cX2_holderThen 15 = .ok (.iload_n 2, 1) := by decide +kernel
theorem dX2_holderThen_16 : decode cX2_holderThen 16 = .ok (.invokevirtual 220, 3) := by decide +kernel
theorem dX2_holderThen_19 : decode cX2_holderThen 19 = .ok (.iload_n 1, 1) := by decide +kernel
theorem dX2_holderThen_20 : decode cX2_holderThen 20 = .ok (.if_icmp .ne 5, 3) := by decide +kernel
theorem dX2_holderThen_23 : decode cX2_holderThen 23 = .ok (.iload_n 3, 1) := by decide +kernel
theorem dX2_holderThen_24 : decode cX2_holderThen 24 = .ok (.ireturn, 1) := by decide +kernel
theorem dX2_holderThen_25 : decode cX2_holderThen 25 = .ok (.iinc 3 1, 3) := by decide +kernel
theorem dX2_holderThen_28 : decode cX2_holderThen 28 = .ok (.goto (-26), 3) := by decide +kernel
theorem dX2_holderThen_31 : decode cX2_holderThen 31 = .ok (.iconst (-1), 1) := by decide +kernel
theorem dX2_holderThen_32 : decode cX2_holderThen 32 = .ok (.ireturn, 1) := by decide +kernel
theorem dX2_isAlive_0 : decode cX2_isAlive 0 = .ok (.aload_n 0, 1) := by decide +kernel
theorem dX2_isAlive_1 : decode cX2_isAlive 1 = .ok (.getfield 50, 3) := by decide +kernel
theorem dX2_isAlive_4 : decode cX2_isAlive 4 = .ok (.iload_n 1, 1) := by decide +kernel
theorem dX2_isAlive_5 : decode cX2_isAlive 5 = .ok (.invokestatic 102, 3) := by decide +kernel
theorem dX2_isAlive_8 : decode cX2_isAlive 8 = .ok (.ireturn, 1) := by decide +kernel
theorem dX2_isSour_0 : decode cX2_isSour 0 = .ok (.aload_n 0, 1) := by decide +kernel
theorem dX2_isSour_1 : decode cX2_isSour 1 = .ok (.getfield 59, 3) := by decide +kernel
theorem dX2_isSour_4 : decode cX2_isSour 4 = .ok (.iload_n 1, 1) := by decide +kernel
theorem dX2_isSour_5 : decode cX2_isSour 5 = .ok (.invokestatic 102, 3) := by decide +kernel
theorem dX2_isSour_8 : decode cX2_isSour 8 = .ok (.ireturn, 1) := by decide +kernel
theorem dX2_joinQueue_0 : decode cX2_joinQueue 0 = .ok (.aload_n 0, 1) := by decide +kernel
theorem dX2_joinQueue_1 : decode cX2_joinQueue 1 = .ok (.getfield 62, 3) := by decide +kernel
theorem dX2_joinQueue_4 : decode cX2_joinQueue 4 = .ok (.bipush 9, 2) := by decide +kernel
theorem dX2_joinQueue_6 : decode cX2_joinQueue 6 = .ok (.if_icmp .ge 23, 3) := by decide +kernel
theorem dX2_joinQueue_9 : decode cX2_joinQueue 9 = .ok (.aload_n 0, 1) := by decide +kernel
theorem dX2_joinQueue_10 : decode cX2_joinQueue 10 = .ok (.getfield 30, 3) := by decide +kernel
theorem dX2_joinQueue_13 : decode cX2_joinQueue 13 = .ok (.aload_n 0, 1) := by decide +kernel
theorem dX2_joinQueue_14 : decode cX2_joinQueue 14 = .ok (.getfield 62, 3) := by decide +kernel
theorem dX2_joinQueue_17 : decode cX2_joinQueue 17 = .ok (.iload_n 1, 1) := by decide +kernel
theorem dX2_joinQueue_18 : decode cX2_joinQueue 18 = .ok (.iastore, 1) := by decide +kernel
theorem dX2_joinQueue_19 : decode cX2_joinQueue 19 = .ok (.aload_n 0, 1) := by decide +kernel
theorem dX2_joinQueue_20 : decode cX2_joinQueue 20 = .ok (.dup, 1) := by decide +kernel
theorem dX2_joinQueue_21 : decode cX2_joinQueue 21 = .ok (.getfield 62, 3) := by decide +kernel
theorem dX2_joinQueue_24 : decode cX2_joinQueue 24 = .ok (.iconst 1, 1) := by decide +kernel
theorem dX2_joinQueue_25 : decode cX2_joinQueue 25 = .ok (.iadd, 1) := by decide +kernel
theorem dX2_joinQueue_26 : decode cX2_joinQueue 26 = .ok (.putfield 62, 3) := by decide +kernel
theorem dX2_joinQueue_29 : decode cX2_joinQueue 29 = .ok (.return_, 1) := by decide +kernel
theorem dX2_leaveQueue_0 : decode cX2_leaveQueue 0 = .ok (.aload_n 0, 1) := by decide +kernel
theorem dX2_leaveQueue_1 : decode cX2_leaveQueue 1 = .ok (.iload_n 1, 1) := by decide +kernel
theorem dX2_leaveQueue_2 : decode cX2_leaveQueue 2 = .ok (.invokevirtual 159, 3) := by decide +kernel
theorem dX2_leaveQueue_5 : decode cX2_leaveQueue 5 = .ok (.istore_n 2, 1) := by decide +kernel
theorem dX2_leaveQueue_6 : decode cX2_leaveQueue 6 = .ok (.iload_n 2, 1) := by decide +kernel
theorem dX2_leaveQueue_7 : decode cX2_leaveQueue 7 = .ok (.iconst (-1), 1) := by decide +kernel
theorem dX2_leaveQueue_8 : decode cX2_leaveQueue 8 = .ok (.if_icmp .eq 36, 3) := by decide +kernel
theorem dX2_leaveQueue_11 : decode cX2_leaveQueue 11 = .ok (.aload_n 0, 1) := by decide +kernel
theorem dX2_leaveQueue_12 : decode cX2_leaveQueue 12 = .ok (.getfield 30, 3) := by decide +kernel
theorem dX2_leaveQueue_15 : decode cX2_leaveQueue 15 = .ok (.iload_n 2, 1) := by decide +kernel
theorem dX2_leaveQueue_16 : decode cX2_leaveQueue 16 = .ok (.iconst 1, 1) := by decide +kernel
theorem dX2_leaveQueue_17 : decode cX2_leaveQueue 17 = .ok (.iadd, 1) := by decide +kernel
theorem dX2_leaveQueue_18 : decode cX2_leaveQueue 18 = .ok (.aload_n 0, 1) := by decide +kernel
theorem dX2_leaveQueue_19 : decode cX2_leaveQueue 19 = .ok (.getfield 30, 3) := by decide +kernel
theorem dX2_leaveQueue_22 : decode cX2_leaveQueue 22 = .ok (.iload_n 2, 1) := by decide +kernel
theorem dX2_leaveQueue_23 : decode cX2_leaveQueue 23 = .ok (.aload_n 0, 1) := by decide +kernel
theorem dX2_leaveQueue_24 : decode cX2_leaveQueue 24 = .ok (.getfield 62, 3) := by decide +kernel
theorem dX2_leaveQueue_27 : decode cX2_leaveQueue 27 = .ok (.iload_n 2, 1) := by decide +kernel
theorem dX2_leaveQueue_28 : decode cX2_leaveQueue 28 = .ok (.isub, 1) := by decide +kernel
theorem dX2_leaveQueue_29 : decode cX2_leaveQueue 29 = .ok (.iconst 1, 1) := by decide +kernel
theorem dX2_leaveQueue_30 : decode cX2_leaveQueue 30 = .ok (.isub, 1) := by decide +kernel
theorem dX2_leaveQueue_31 : decode cX2_leaveQueue 31 = .ok (.invokestatic 182, 3) := by decide +kernel
theorem dX2_leaveQueue_34 : decode cX2_leaveQueue 34 = .ok (.aload_n 0, 1) := by decide +kernel
theorem dX2_leaveQueue_35 : decode cX2_leaveQueue 35 = .ok (.dup, 1) := by decide +kernel
theorem dX2_leaveQueue_36 : decode cX2_leaveQueue 36 = .ok (.getfield 62, 3) := by decide +kernel
theorem dX2_leaveQueue_39 : decode cX2_leaveQueue 39 = .ok (.iconst 1, 1) := by decide +kernel
theorem dX2_leaveQueue_40 : decode cX2_leaveQueue 40 = .ok (.isub, 1) := by decide +kernel
theorem dX2_leaveQueue_41 : decode cX2_leaveQueue 41 = .ok (.putfield 62, 3) := by decide +kernel
theorem dX2_leaveQueue_44 : decode cX2_leaveQueue 44 = .ok (.return_, 1) := by decide +kernel
theorem dX2_liveDrawn_0 : decode cX2_liveDrawn 0 = .ok (.iconst 0, 1) := by decide +kernel
theorem dX2_liveDrawn_1 : decode cX2_liveDrawn 1 = .ok (.istore_n 3, 1) := by decide +kernel
theorem dX2_liveDrawn_2 : decode cX2_liveDrawn 2 = .ok (.iload_n 3, 1) := by decide +kernel
theorem dX2_liveDrawn_3 : decode cX2_liveDrawn 3 = .ok (.iload_n 1, 1) := by decide +kernel
theorem dX2_liveDrawn_4 : decode cX2_liveDrawn 4 = .ok (.if_icmp .ge 60, 3) := by decide +kernel
theorem dX2_liveDrawn_7 : decode cX2_liveDrawn 7 = .ok (.aload_n 0, 1) := by decide +kernel
theorem dX2_liveDrawn_8 : decode cX2_liveDrawn 8 = .ok (.getfield 41, 3) := by decide +kernel
theorem dX2_liveDrawn_11 : decode cX2_liveDrawn 11 = .ok (.sipush 200, 3) := by decide +kernel
theorem dX2_liveDrawn_14 : decode cX2_liveDrawn 14 = .ok (.if_icmp .ge 50, 3) := by decide +kernel
theorem dX2_liveDrawn_17 : decode cX2_liveDrawn 17 = .ok (.iconst 0, 1) := by decide +kernel
theorem dX2_liveDrawn_18 : decode cX2_liveDrawn 18 = .ok (.istore 4, 2) := by decide +kernel
theorem dX2_liveDrawn_20 : decode cX2_liveDrawn 20 = .ok (.iload 4, 2) := by decide +kernel
theorem dX2_liveDrawn_22 : decode cX2_liveDrawn 22 = .ok (.aload_n 0, 1) := by decide +kernel
theorem dX2_liveDrawn_23 : decode cX2_liveDrawn 23 = .ok (.getfield 37, 3) := by decide +kernel
theorem dX2_liveDrawn_26 : decode cX2_liveDrawn 26 = .ok (.getfield 45, 3) := by decide +kernel
theorem dX2_liveDrawn_29 : decode cX2_liveDrawn 29 = .ok (.if_icmp .ge 25, 3) := by decide +kernel
theorem dX2_liveDrawn_32 : decode cX2_liveDrawn 32 = .ok (.aload_n 0, 1) := by decide +kernel
theorem dX2_liveDrawn_33 : decode cX2_liveDrawn 33 = .ok (.iload 4, 2) := by decide +kernel
theorem dX2_liveDrawn_35 : decode cX2_liveDrawn 35 = .ok (.invokevirtual 106, 3) := by decide +kernel
theorem dX2_liveDrawn_38 : decode cX2_liveDrawn 38 = .ok (.ifCond .eq 10, 3) := by decide +kernel
theorem dX2_liveDrawn_41 : decode cX2_liveDrawn 41 = .ok (.aload_n 0, 1) := by decide +kernel
theorem dX2_liveDrawn_42 : decode cX2_liveDrawn 42 = .ok (.iload 4, 2) := by decide +kernel
theorem dX2_liveDrawn_44 : decode cX2_liveDrawn 44 = .ok (.aload_n 2, 1) := by decide +kernel
theorem dX2_liveDrawn_45 : decode cX2_liveDrawn 45 = .ok (.invokevirtual 197, 3) := by decide +kernel
theorem dX2_liveDrawn_48 : decode cX2_liveDrawn 48 = .ok (.iinc 4 1, 3) := by decide +kernel
theorem dX2_liveDrawn_51 : decode cX2_liveDrawn 51 = .ok (.goto (-31), 3) := by decide +kernel
theorem dX2_liveDrawn_54 : decode cX2_liveDrawn 54 = .ok (.aload_n 0, 1) := by decide +kernel
theorem dX2_liveDrawn_55 : decode cX2_liveDrawn 55 = .ok (.invokevirtual 188, 3) := by decide +kernel
theorem dX2_liveDrawn_58 : decode cX2_liveDrawn 58 = .ok (.iinc 3 1, 3) := by decide +kernel
theorem dX2_liveDrawn_61 : decode cX2_liveDrawn 61 = .ok (.goto (-59), 3) := by decide +kernel
theorem dX2_liveDrawn_64 : decode cX2_liveDrawn 64 = .ok (.iload_n 3, 1) := by decide +kernel
theorem dX2_liveDrawn_65 : decode cX2_liveDrawn 65 = .ok (.ireturn, 1) := by decide +kernel
theorem dX2_loseName_0 : decode cX2_loseName 0 = .ok (.aload_n 0, 1) := by decide +kernel
theorem dX2_loseName_1 : decode cX2_loseName 1 = .ok (.getfield 9, 3) := by decide +kernel
theorem dX2_loseName_4 : decode cX2_loseName 4 = .ok (.aload_n 0, 1) := by decide +kernel
theorem dX2_loseName_5 : decode cX2_loseName 5 = .ok (.getfield 21, 3) := by decide +kernel
theorem dX2_loseName_8 : decode cX2_loseName 8 = .ok (.iload_n 1, 1) := by decide +kernel
theorem dX2_loseName_9 : decode cX2_loseName 9 = .ok (.iaload, 1) := by decide +kernel
theorem dX2_loseName_10 : decode cX2_loseName 10 = .ok (.iconst (-1), 1) := by decide +kernel
theorem dX2_loseName_11 : decode cX2_loseName 11 = .ok (.iastore, 1) := by decide +kernel
theorem dX2_loseName_12 : decode cX2_loseName 12 = .ok (.aload_n 0, 1) := by decide +kernel
theorem dX2_loseName_13 : decode cX2_loseName 13 = .ok (.getfield 21, 3) := by decide +kernel
theorem dX2_loseName_16 : decode cX2_loseName 16 = .ok (.iload_n 1, 1) := by decide +kernel
theorem dX2_loseName_17 : decode cX2_loseName 17 = .ok (.iconst (-1), 1) := by decide +kernel
theorem dX2_loseName_18 : decode cX2_loseName 18 = .ok (.iastore, 1) := by decide +kernel
theorem dX2_loseName_19 : decode cX2_loseName 19 = .ok (.return_, 1) := by decide +kernel
theorem dX2_owed_0 : decode cX2_owed 0 = .ok (.aload_n 0, 1) := by decide +kernel
theorem dX2_owed_1 : decode cX2_owed 1 = .ok (.getfield 21, 3) := by decide +kernel
theorem dX2_owed_4 : decode cX2_owed 4 = .ok (.iload_n 1, 1) := by decide +kernel
theorem dX2_owed_5 : decode cX2_owed 5 = .ok (.iaload, 1) := by decide +kernel
theorem dX2_owed_6 : decode cX2_owed 6 = .ok (.istore_n 2, 1) := by decide +kernel
theorem dX2_owed_7 : decode cX2_owed 7 = .ok (.aload_n 0, 1) := by decide +kernel
theorem dX2_owed_8 : decode cX2_owed 8 = .ok (.getfield 37, 3) := by decide +kernel
theorem dX2_owed_11 : decode cX2_owed 11 = .ok (.iload_n 2, 1) := by decide +kernel
theorem dX2_owed_12 : decode cX2_owed 12 = .ok (.invokevirtual 83, 3) := by decide +kernel
theorem dX2_owed_15 : decode cX2_owed 15 = .ok (.ifCond .eq 12, 3) := by decide +kernel
theorem dX2_owed_18 : decode cX2_owed 18 = .ok (.aload_n 0, 1) := by decide +kernel
theorem dX2_owed_19 : decode cX2_owed 19 = .ok (.getfield 15, 3) := by decide +kernel
theorem dX2_owed_22 : decode cX2_owed 22 = .ok (.iload_n 2, 1) := by decide +kernel
theorem dX2_owed_23 : decode cX2_owed 23 = .ok (.iaload, 1) := by decide +kernel
theorem dX2_owed_24 : decode cX2_owed 24 = .ok (.goto 4, 3) := by decide +kernel
theorem dX2_owed_27 : decode cX2_owed 27 = .ok (.iconst 0, 1) := by decide +kernel
theorem dX2_owed_28 : decode cX2_owed 28 = .ok (.ireturn, 1) := by decide +kernel
theorem dX2_passMondays_0 : decode cX2_passMondays 0 = .ok (.iconst 0, 1) := by decide +kernel
theorem dX2_passMondays_1 : decode cX2_passMondays 1 = .ok (.istore_n 2, 1) := by decide +kernel
theorem dX2_passMondays_2 : decode cX2_passMondays 2 = .ok (.iload_n 2, 1) := by decide +kernel
theorem dX2_passMondays_3 : decode cX2_passMondays 3 = .ok (.iload_n 1, 1) := by decide +kernel
theorem dX2_passMondays_4 : decode cX2_passMondays 4 = .ok (.if_icmp .ge 13, 3) := by decide +kernel
theorem dX2_passMondays_7 : decode cX2_passMondays 7 = .ok (.aload_n 0, 1) := by decide +kernel
theorem dX2_passMondays_8 : decode cX2_passMondays 8 = .ok (.invokevirtual 188, 3) := by decide +kernel
theorem dX2_passMondays_11 : decode cX2_passMondays 11 = .ok (.iinc 2 1, 3) := by decide +kernel
theorem dX2_passMondays_14 : decode cX2_passMondays 14 = .ok (.goto (-12), 3) := by decide +kernel
theorem dX2_passMondays_17 : decode cX2_passMondays 17 = .ok (.return_, 1) := by decide +kernel
theorem dX2_payOff_0 : decode cX2_payOff 0 = .ok (.aload_n 0, 1) := by decide +kernel
theorem dX2_payOff_1 : decode cX2_payOff 1 = .ok (.getfield 15, 3) := by decide +kernel
theorem dX2_payOff_4 : decode cX2_payOff 4 = .ok (.aload_n 0, 1) := by decide +kernel
theorem dX2_payOff_5 : decode cX2_payOff 5 = .ok (.getfield 21, 3) := by decide +kernel
theorem dX2_payOff_8 : decode cX2_payOff 8 = .ok (.iload_n 1, 1) := by decide +kernel
theorem dX2_payOff_9 : decode cX2_payOff 9 = .ok (.iaload, 1) := by decide +kernel
theorem dX2_payOff_10 : decode cX2_payOff 10 = .ok (.dup2, 1) := by decide +kernel
theorem dX2_payOff_11 : decode cX2_payOff 11 = .ok (.iaload, 1) := by decide +kernel
theorem dX2_payOff_12 : decode cX2_payOff 12 = .ok (.iload_n 2, 1) := by decide +kernel
theorem dX2_payOff_13 : decode cX2_payOff 13 = .ok (.isub, 1) := by decide +kernel
theorem dX2_payOff_14 : decode cX2_payOff 14 = .ok (.iastore, 1) := by decide +kernel
theorem dX2_payOff_15 : decode cX2_payOff 15 = .ok (.aload_n 0, 1) := by decide +kernel
theorem dX2_payOff_16 : decode cX2_payOff 16 = .ok (.getfield 24, 3) := by decide +kernel
theorem dX2_payOff_19 : decode cX2_payOff 19 = .ok (.iload_n 1, 1) := by decide +kernel
theorem dX2_payOff_20 : decode cX2_payOff 20 = .ok (.dup2, 1) := by decide +kernel
theorem dX2_payOff_21 : decode cX2_payOff 21 = .ok (.iaload, 1) := by decide +kernel
theorem dX2_payOff_22 : decode cX2_payOff 22 = .ok (.iload_n 2, 1) := by decide +kernel
theorem dX2_payOff_23 : decode cX2_payOff 23 = .ok (.isub, 1) := by decide +kernel
theorem dX2_payOff_24 : decode cX2_payOff 24 = .ok (.iastore, 1) := by decide +kernel
theorem dX2_payOff_25 : decode cX2_payOff 25 = .ok (.return_, 1) := by decide +kernel
theorem dX2_perish_0 : decode cX2_perish 0 = .ok (.aload_n 0, 1) := by decide +kernel
theorem dX2_perish_1 : decode cX2_perish 1 = .ok (.getfield 21, 3) := by decide +kernel
theorem dX2_perish_4 : decode cX2_perish 4 = .ok (.iload_n 1, 1) := by decide +kernel
theorem dX2_perish_5 : decode cX2_perish 5 = .ok (.iaload, 1) := by decide +kernel
theorem dX2_perish_6 : decode cX2_perish 6 = .ok (.istore_n 3, 1) := by decide +kernel
theorem dX2_perish_7 : decode cX2_perish 7 = .ok (.aload_n 0, 1) := by decide +kernel
theorem dX2_perish_8 : decode cX2_perish 8 = .ok (.dup, 1) := by decide +kernel
theorem dX2_perish_9 : decode cX2_perish 9 = .ok (.getfield 50, 3) := by decide +kernel
theorem dX2_perish_12 : decode cX2_perish 12 = .ok (.iconst 1, 1) := by decide +kernel
theorem dX2_perish_13 : decode cX2_perish 13 = .ok (.iload_n 1, 1) := by decide +kernel
theorem dX2_perish_14 : decode cX2_perish 14 = .ok (.ishl, 1) := by decide +kernel
theorem dX2_perish_15 : decode cX2_perish 15 = .ok (.iconst (-1), 1) := by decide +kernel
theorem dX2_perish_16 : decode cX2_perish 16 = .ok (.ixor, 1) := by decide +kernel
theorem dX2_perish_17 : decode cX2_perish 17 = .ok (.iand, 1) := by decide +kernel
theorem dX2_perish_18 : decode cX2_perish 18 = .ok (.putfield 50, 3) := by decide +kernel
theorem dX2_perish_21 : decode cX2_perish 21 = .ok (.aload_n 0, 1) := by decide +kernel
theorem dX2_perish_22 : decode cX2_perish 22 = .ok (.iload_n 1, 1) := by decide +kernel
theorem dX2_perish_23 : decode cX2_perish 23 = .ok (.invokevirtual 171, 3) := by decide +kernel
theorem dX2_perish_26 : decode cX2_perish 26 = .ok (.iload_n 3, 1) := by decide +kernel
theorem dX2_perish_27 : decode cX2_perish 27 = .ok (.iconst (-1), 1) := by decide +kernel
theorem dX2_perish_28 : decode cX2_perish 28 = .ok (.if_icmp .eq 25, 3) := by decide +kernel
theorem dX2_perish_31 : decode cX2_perish 31 = .ok (.aload_n 0, 1) := by decide +kernel
theorem dX2_perish_32 : decode cX2_perish 32 = .ok (.iload_n 1, 1) := by decide +kernel
theorem dX2_perish_33 : decode cX2_perish 33 = .ok (.invokevirtual 174, 3) := by decide +kernel
theorem dX2_perish_36 : decode cX2_perish 36 = .ok (.iload_n 2, 1) := by decide +kernel
theorem dX2_perish_37 : decode cX2_perish 37 = .ok (.ifCond .eq 16, 3) := by decide +kernel
theorem dX2_perish_40 : decode cX2_perish 40 = .ok (.aload_n 0, 1) := by decide +kernel
theorem dX2_perish_41 : decode cX2_perish 41 = .ok (.getfield 18, 3) := by decide +kernel
theorem dX2_perish_44 : decode cX2_perish 44 = .ok (.iload_n 3, 1) := by decide +kernel
theorem dX2_perish_45 : decode cX2_perish 45 = .ok (.aload_n 0, 1) := by decide +kernel
theorem dX2_perish_46 : decode cX2_perish 46 = .ok (.getfield 41, 3) := by decide +kernel
theorem dX2_perish_49 : decode cX2_perish 49 = .ok (.bipush 12, 2) := by decide +kernel
theorem dX2_perish_51 : decode cX2_perish 51 = .ok (.iadd, 1) := by decide +kernel
theorem dX2_perish_52 : decode cX2_perish 52 = .ok (.iastore, 1) := by decide +kernel
theorem dX2_perish_53 : decode cX2_perish 53 = .ok (.return_, 1) := by decide +kernel
theorem dX2_runAway_0 : decode cX2_runAway 0 = .ok (.aload_n 0, 1) := by decide +kernel
theorem dX2_runAway_1 : decode cX2_runAway 1 = .ok (.dup, 1) := by decide +kernel
theorem dX2_runAway_2 : decode cX2_runAway 2 = .ok (.getfield 59, 3) := by decide +kernel
theorem dX2_runAway_5 : decode cX2_runAway 5 = .ok (.iconst 1, 1) := by decide +kernel
theorem dX2_runAway_6 : decode cX2_runAway 6 = .ok (.aload_n 0, 1) := by decide +kernel
theorem dX2_runAway_7 : decode cX2_runAway 7 = .ok (.getfield 21, 3) := by decide +kernel
theorem dX2_runAway_10 : decode cX2_runAway 10 = .ok (.iload_n 1, 1) := by decide +kernel
theorem dX2_runAway_11 : decode cX2_runAway 11 = .ok (.iaload, 1) := by decide +kernel
theorem dX2_runAway_12 : decode cX2_runAway 12 = .ok (.ishl, 1) := by decide +kernel
theorem dX2_runAway_13 : decode cX2_runAway 13 = .ok (.ior, 1) := by decide +kernel
theorem dX2_runAway_14 : decode cX2_runAway 14 = .ok (.putfield 59, 3) := by decide +kernel
theorem dX2_runAway_17 : decode cX2_runAway 17 = .ok (.aload_n 0, 1) := by decide +kernel
theorem dX2_runAway_18 : decode cX2_runAway 18 = .ok (.iload_n 1, 1) := by decide +kernel
theorem dX2_runAway_19 : decode cX2_runAway 19 = .ok (.invokevirtual 174, 3) := by decide +kernel
theorem dX2_runAway_22 : decode cX2_runAway 22 = .ok (.aload_n 0, 1) := by decide +kernel
theorem dX2_runAway_23 : decode cX2_runAway 23 = .ok (.iload_n 1, 1) := by decide +kernel
theorem dX2_runAway_24 : decode cX2_runAway 24 = .ok (.invokevirtual 91, 3) := by decide +kernel
theorem dX2_runAway_27 : decode cX2_runAway 27 = .ok (.aload_n 0, 1) := by decide +kernel
theorem dX2_runAway_28 : decode cX2_runAway 28 = .ok (.dup, 1) := by decide +kernel
theorem dX2_runAway_29 : decode cX2_runAway 29 = .ok (.getfield 53, 3) := by decide +kernel
theorem dX2_runAway_32 : decode cX2_runAway 32 = .ok (.iconst 1, 1) := by decide +kernel
theorem dX2_runAway_33 : decode cX2_runAway 33 = .ok (.iload_n 1, 1) := by decide +kernel
theorem dX2_runAway_34 : decode cX2_runAway 34 = .ok (.ishl, 1) := by decide +kernel
theorem dX2_runAway_35 : decode cX2_runAway 35 = .ok (.ior, 1) := by decide +kernel
theorem dX2_runAway_36 : decode cX2_runAway 36 = .ok (.putfield 53, 3) := by decide +kernel
theorem dX2_runAway_39 : decode cX2_runAway 39 = .ok (.aload_n 0, 1) := by decide +kernel
theorem dX2_runAway_40 : decode cX2_runAway 40 = .ok (.dup, 1) := by decide +kernel
theorem dX2_runAway_41 : decode cX2_runAway 41 = .ok (.getfield 56, 3) := by decide +kernel
theorem dX2_runAway_44 : decode cX2_runAway 44 = .ok (.iconst 1, 1) := by decide +kernel
theorem dX2_runAway_45 : decode cX2_runAway 45 = .ok (.iload_n 1, 1) := by decide +kernel
theorem dX2_runAway_46 : decode cX2_runAway 46 = .ok (.ishl, 1) := by decide +kernel
theorem dX2_runAway_47 : decode cX2_runAway 47 = .ok (.ior, 1) := by decide +kernel
theorem dX2_runAway_48 : decode cX2_runAway 48 = .ok (.putfield 56, 3) := by decide +kernel
theorem dX2_runAway_51 : decode cX2_runAway 51 = .ok (.return_, 1) := by decide +kernel
theorem dX2_timesCalled_0 : decode cX2_timesCalled 0 = .ok (.iconst 0, 1) := by decide +kernel
theorem dX2_timesCalled_1 : decode cX2_timesCalled 1 = .ok (.istore_n 3, 1) := by decide +kernel
theorem dX2_timesCalled_2 : decode cX2_timesCalled 2 = .ok (.iconst 0, 1) := by decide +kernel
theorem dX2_timesCalled_3 : decode cX2_timesCalled 3 = .ok (.istore 4, 2) := by decide +kernel
theorem dX2_timesCalled_5 : decode cX2_timesCalled 5 = .ok (.iload 4, 2) := by decide +kernel
theorem dX2_timesCalled_7 : decode cX2_timesCalled 7 = .ok (.aload_n 0, 1) := by decide +kernel
theorem dX2_timesCalled_8 : decode cX2_timesCalled 8 = .ok (.getfield 41, 3) := by decide +kernel
theorem dX2_timesCalled_11 : decode cX2_timesCalled 11 = .ok (.if_icmp .ge 23, 3) := by decide +kernel
theorem dX2_timesCalled_14 : decode cX2_timesCalled 14 = .ok (.aload_n 0, 1) := by decide +kernel
theorem dX2_timesCalled_15 : decode cX2_timesCalled 15 = .ok (.iload_n 1, 1) := by decide +kernel
theorem dX2_timesCalled_16 : decode cX2_timesCalled 16 = .ok (.iload 4, 2) := by decide +kernel
theorem dX2_timesCalled_18 : decode cX2_timesCalled 18 = .ok (.invokevirtual 220, 3) := by decide +kernel
theorem dX2_timesCalled_21 : decode cX2_timesCalled 21 = .ok (.iload_n 2, 1) := by decide +kernel
theorem dX2_timesCalled_22 : decode cX2_timesCalled 22 = .ok (.if_icmp .ne 6, 3) := by decide +kernel
theorem dX2_timesCalled_25 : decode cX2_timesCalled 25 = .ok (.iinc 3 1, 3) := by decide +kernel
theorem dX2_timesCalled_28 : decode cX2_timesCalled 28 = .ok (.iinc 4 1, 3) := by decide +kernel
theorem dX2_timesCalled_31 : decode cX2_timesCalled 31 = .ok (.goto (-26), 3) := by decide +kernel
theorem dX2_timesCalled_34 : decode cX2_timesCalled 34 = .ok (.iload_n 3, 1) := by decide +kernel
theorem dX2_timesCalled_35 : decode cX2_timesCalled 35 = .ok (.ireturn, 1) := by decide +kernel
theorem dX2_waitAhead_0 : decode cX2_waitAhead 0 = .ok (.iconst 0, 1) := by decide +kernel
theorem dX2_waitAhead_1 : decode cX2_waitAhead 1 = .ok (.istore_n 2, 1) := by decide +kernel
theorem dX2_waitAhead_2 : decode cX2_waitAhead 2 = .ok (.iload_n 2, 1) := by decide +kernel
theorem dX2_waitAhead_3 : decode cX2_waitAhead 3 = .ok (.aload_n 0, 1) := by decide +kernel
theorem dX2_waitAhead_4 : decode cX2_waitAhead 4 = .ok (.getfield 62, 3) := by decide +kernel
theorem dX2_waitAhead_7 : decode cX2_waitAhead 7 = .ok (.if_icmp .ge 21, 3) := by decide +kernel
theorem dX2_waitAhead_10 : decode cX2_waitAhead 10 = .ok (.aload_n 0, 1) := by decide +kernel
theorem dX2_waitAhead_11 : decode cX2_waitAhead 11 = .ok (.getfield 30, 3) := by decide +kernel
theorem dX2_waitAhead_14 : decode cX2_waitAhead 14 = .ok (.iload_n 2, 1) := by decide +kernel
theorem dX2_waitAhead_15 : decode cX2_waitAhead 15 = .ok (.iaload, 1) := by decide +kernel
theorem dX2_waitAhead_16 : decode cX2_waitAhead 16 = .ok (.iload_n 1, 1) := by decide +kernel
theorem dX2_waitAhead_17 : decode cX2_waitAhead 17 = .ok (.if_icmp .ne 5, 3) := by decide +kernel
theorem dX2_waitAhead_20 : decode cX2_waitAhead 20 = .ok (.iload_n 2, 1) := by decide +kernel
theorem dX2_waitAhead_21 : decode cX2_waitAhead 21 = .ok (.ireturn, 1) := by decide +kernel
theorem dX2_waitAhead_22 : decode cX2_waitAhead 22 = .ok (.iinc 2 1, 3) := by decide +kernel
theorem dX2_waitAhead_25 : decode cX2_waitAhead 25 = .ok (.goto (-23), 3) := by decide +kernel
theorem dX2_waitAhead_28 : decode cX2_waitAhead 28 = .ok (.iconst (-1), 1) := by decide +kernel
theorem dX2_waitAhead_29 : decode cX2_waitAhead 29 = .ok (.ireturn, 1) := by decide +kernel
theorem dX2_whyNot_0 : decode cX2_whyNot 0 = .ok (.iload_n 1, 1) := by decide +kernel
theorem dX2_whyNot_1 : decode cX2_whyNot 1 = .ok (.tableswitch 95 0 6 #[43, 50, 57, 95, 64, 70, 77], 43) := by decide +kernel
theorem dX2_whyNot_44 : decode cX2_whyNot 44 = .ok (.aload_n 0, 1) := by decide +kernel
theorem dX2_whyNot_45 : decode cX2_whyNot 45 = .ok (.iload_n 2, 1) := by decide +kernel
theorem dX2_whyNot_46 : decode cX2_whyNot 46 = .ok (.iload_n 3, 1) := by decide +kernel
theorem dX2_whyNot_47 : decode cX2_whyNot 47 = .ok (.invokevirtual 119, 3) := by decide +kernel
theorem dX2_whyNot_50 : decode cX2_whyNot 50 = .ok (.ireturn, 1) := by decide +kernel
theorem dX2_whyNot_51 : decode cX2_whyNot 51 = .ok (.aload_n 0, 1) := by decide +kernel
theorem dX2_whyNot_52 : decode cX2_whyNot 52 = .ok (.iload_n 2, 1) := by decide +kernel
theorem dX2_whyNot_53 : decode cX2_whyNot 53 = .ok (.iload_n 3, 1) := by decide +kernel
theorem dX2_whyNot_54 : decode cX2_whyNot 54 = .ok (.invokevirtual 122, 3) := by decide +kernel
theorem dX2_whyNot_57 : decode cX2_whyNot 57 = .ok (.ireturn, 1) := by decide +kernel
theorem dX2_whyNot_58 : decode cX2_whyNot 58 = .ok (.aload_n 0, 1) := by decide +kernel
theorem dX2_whyNot_59 : decode cX2_whyNot 59 = .ok (.iload_n 2, 1) := by decide +kernel
theorem dX2_whyNot_60 : decode cX2_whyNot 60 = .ok (.iload_n 3, 1) := by decide +kernel
theorem dX2_whyNot_61 : decode cX2_whyNot 61 = .ok (.invokevirtual 125, 3) := by decide +kernel
theorem dX2_whyNot_64 : decode cX2_whyNot 64 = .ok (.ireturn, 1) := by decide +kernel
theorem dX2_whyNot_65 : decode cX2_whyNot 65 = .ok (.aload_n 0, 1) := by decide +kernel
theorem dX2_whyNot_66 : decode cX2_whyNot 66 = .ok (.iload_n 2, 1) := by decide +kernel
theorem dX2_whyNot_67 : decode cX2_whyNot 67 = .ok (.invokevirtual 128, 3) := by decide +kernel
theorem dX2_whyNot_70 : decode cX2_whyNot 70 = .ok (.ireturn, 1) := by decide +kernel
theorem dX2_whyNot_71 : decode cX2_whyNot 71 = .ok (.aload_n 0, 1) := by decide +kernel
theorem dX2_whyNot_72 : decode cX2_whyNot 72 = .ok (.iload_n 2, 1) := by decide +kernel
theorem dX2_whyNot_73 : decode cX2_whyNot 73 = .ok (.iload_n 3, 1) := by decide +kernel
theorem dX2_whyNot_74 : decode cX2_whyNot 74 = .ok (.invokevirtual 131, 3) := by decide +kernel
theorem dX2_whyNot_77 : decode cX2_whyNot 77 = .ok (.ireturn, 1) := by decide +kernel
theorem dX2_whyNot_78 : decode cX2_whyNot 78 = .ok (.sipush 200, 3) := by decide +kernel
theorem dX2_whyNot_81 : decode cX2_whyNot 81 = .ok (.aload_n 0, 1) := by decide +kernel
theorem dX2_whyNot_82 : decode cX2_whyNot 82 = .ok (.getfield 41, 3) := by decide +kernel
theorem dX2_whyNot_85 : decode cX2_whyNot 85 = .ok (.isub, 1) := by decide +kernel
theorem dX2_whyNot_86 : decode cX2_whyNot 86 = .ok (.iload_n 3, 1) := by decide +kernel
theorem dX2_whyNot_87 : decode cX2_whyNot 87 = .ok (.if_icmp .ge 7, 3) := by decide +kernel
theorem dX2_whyNot_90 : decode cX2_whyNot 90 = .ok (.iconst 1, 1) := by decide +kernel
theorem dX2_whyNot_91 : decode cX2_whyNot 91 = .ok (.goto 4, 3) := by decide +kernel
theorem dX2_whyNot_94 : decode cX2_whyNot 94 = .ok (.iconst 0, 1) := by decide +kernel
theorem dX2_whyNot_95 : decode cX2_whyNot 95 = .ok (.ireturn, 1) := by decide +kernel
theorem dX2_whyNot_96 : decode cX2_whyNot 96 = .ok (.aload_n 0, 1) := by decide +kernel
theorem dX2_whyNot_97 : decode cX2_whyNot 97 = .ok (.iload_n 2, 1) := by decide +kernel
theorem dX2_whyNot_98 : decode cX2_whyNot 98 = .ok (.invokevirtual 106, 3) := by decide +kernel
theorem dX2_whyNot_101 : decode cX2_whyNot 101 = .ok (.ifCond .eq 7, 3) := by decide +kernel
theorem dX2_whyNot_104 : decode cX2_whyNot 104 = .ok (.iconst 0, 1) := by decide +kernel
theorem dX2_whyNot_105 : decode cX2_whyNot 105 = .ok (.goto 4, 3) := by decide +kernel
theorem dX2_whyNot_108 : decode cX2_whyNot 108 = .ok (.iconst 1, 1) := by decide +kernel
theorem dX2_whyNot_109 : decode cX2_whyNot 109 = .ok (.ireturn, 1) := by decide +kernel
theorem dX2_whyNotFlee_0 : decode cX2_whyNotFlee 0 = .ok (.aload_n 0, 1) := by decide +kernel
theorem dX2_whyNotFlee_1 : decode cX2_whyNotFlee 1 = .ok (.iload_n 1, 1) := by decide +kernel
theorem dX2_whyNotFlee_2 : decode cX2_whyNotFlee 2 = .ok (.invokevirtual 106, 3) := by decide +kernel
theorem dX2_whyNotFlee_5 : decode cX2_whyNotFlee 5 = .ok (.ifCond .ne 5, 3) := by decide +kernel
theorem dX2_whyNotFlee_8 : decode cX2_whyNotFlee 8 = .ok (.iconst 1, 1) := by decide +kernel
theorem dX2_whyNotFlee_9 : decode cX2_whyNotFlee 9 = .ok (.ireturn, 1) := by decide +kernel
theorem dX2_whyNotFlee_10 : decode cX2_whyNotFlee 10 = .ok (.aload_n 0, 1) := by decide +kernel
