theorem dX2_hangedYet_1 : decode cX2_hangedYet 1 = .ok (.getfield 18, 3) := by decide +kernel
theorem dX2_hangedYet_4 : decode cX2_hangedYet 4 = .ok (.iload_n 1, 1) := by decide +kernel
theorem dX2_hangedYet_5 : decode cX2_hangedYet 5 = .ok (.iaload, 1) := by decide +kernel
theorem dX2_hangedYet_6 : decode cX2_hangedYet 6 = .ok (.aload_n 0, 1) := by decide +kernel
theorem dX2_hangedYet_7 : decode cX2_hangedYet 7 = .ok (.getfield 41, 3) := by decide +kernel
theorem dX2_hangedYet_10 : decode cX2_hangedYet 10 = .ok (.if_icmp .le 17, 3) := by decide +kernel
theorem dX2_hangedYet_13 : decode cX2_hangedYet 13 = .ok (.aload_n 0, 1) := by decide +kernel
theorem dX2_hangedYet_14 : decode cX2_hangedYet 14 = .ok (.getfield 18, 3) := by decide +kernel
theorem dX2_hangedYet_17 : decode cX2_hangedYet 17 = .ok (.iload_n 1, 1) := by decide +kernel
theorem dX2_hangedYet_18 : decode cX2_hangedYet 18 = .ok (.iaload, 1) := by decide +kernel
theorem dX2_hangedYet_19 : decode cX2_hangedYet 19 = .ok (.aload_n 0, 1) := by decide +kernel
theorem dX2_hangedYet_20 : decode cX2_hangedYet 20 = .ok (.getfield 41, 3) := by decide +kernel
theorem dX2_hangedYet_23 : decode cX2_hangedYet 23 = .ok (.isub, 1) := by decide +kernel
theorem dX2_hangedYet_24 : decode cX2_hangedYet 24 = .ok (.goto 4, 3) := by decide +kernel
theorem dX2_hangedYet_27 : decode cX2_hangedYet 27 = .ok (.iconst 0, 1) := by decide +kernel
theorem dX2_hangedYet_28 : decode cX2_hangedYet 28 = .ok (.ireturn, 1) := by decide +kernel
theorem dX2_hasChanged_0 : decode cX2_hasChanged 0 = .ok (.aload_n 0, 1) := by decide +kernel
theorem dX2_hasChanged_1 : decode cX2_hasChanged 1 = .ok (.getfield 53, 3) := by decide +kernel
theorem dX2_hasChanged_4 : decode cX2_hasChanged 4 = .ok (.iload_n 1, 1) := by decide +kernel
theorem dX2_hasChanged_5 : decode cX2_hasChanged 5 = .ok (.invokestatic 102, 3) := by decide +kernel
theorem dX2_hasChanged_8 : decode cX2_hasChanged 8 = .ok (.ireturn, 1) := by decide +kernel
theorem dX2_isAlive_0 : decode cX2_isAlive 0 = .ok (.aload_n 0, 1) := by decide +kernel
theorem dX2_isAlive_1 : decode cX2_isAlive 1 = .ok (.getfield 50, 3) := by decide +kernel
theorem dX2_isAlive_4 : decode cX2_isAlive 4 = .ok (.iload_n 1, 1) := by decide +kernel
theorem dX2_isAlive_5 : decode cX2_isAlive 5 = .ok (.invokestatic 102, 3) := by decide +kernel
theorem dX2_isAlive_8 : decode cX2_isAlive 8 = .ok (.ireturn, 1) := by decide +kernel
theorem dX2_leaveQueue_0 : decode cX2_leaveQueue 0 = .ok (.aload_n 0, 1) := by decide +kernel
theorem dX2_leaveQueue_1 : decode cX2_leaveQueue 1 = .ok (.iload_n 1, 1) := by decide +kernel
theorem dX2_leaveQueue_2 : decode cX2_leaveQueue 2 = .ok (.invokevirtual 159, 3) := by decide +kernel
theorem dX2_leaveQueue_5 : decode cX2_leaveQueue 5 = .ok (.istore_n 2, 1) := by decide +kernel
theorem dX2_leaveQueue_6 : decode cX2_leaveQueue 6 = .ok (.iload_n 2, 1) := by decide +kernel
theorem dX2_leaveQueue_7 : decode cX2_leaveQueue 7 = .ok (.iconst (-1), 1) := by decide +kernel
theorem dX2_leaveQueue_8 : decode cX2_leaveQueue 8 = .ok (.if_icmp .eq 36, 3) := by decide +kernel
theorem dX2_leaveQueue_11 : decode cX2_leaveQueue 11 = .ok (.aload_n 0, 1) := by decide +kernel
theorem dX2_leaveQueue_12 : decode cX2_leaveQueue 12 = .ok (.getfield 30, 3) := by decide +kernel
theorem dX2_leaveQueue_15 : decode cX2_leaveQueue 15 = .ok (.iload_n 2, 1) := by decide +kernel
theorem dX2_leaveQueue_16 : decode cX2_leaveQueue 16 = .ok (.iconst 1, 1) := by decide +kernel
theorem dX2_leaveQueue_17 : decode cX2_leaveQueue 17 = .ok (.iadd, 1) := by decide +kernel
theorem dX2_leaveQueue_18 : decode cX2_leaveQueue 18 = .ok (.aload_n 0, 1) := by decide +kernel
theorem dX2_leaveQueue_19 : decode cX2_leaveQueue 19 = .ok (.getfield 30, 3) := by decide +kernel
theorem dX2_leaveQueue_22 : decode cX2_leaveQueue 22 = .ok (.iload_n 2, 1) := by decide +kernel
theorem dX2_leaveQueue_23 : decode cX2_leaveQueue 23 = .ok (.aload_n 0, 1) := by decide +kernel
theorem dX2_leaveQueue_24 : decode cX2_leaveQueue 24 = .ok (.getfield 62, 3) := by decide +kernel
theorem dX2_leaveQueue_27 : decode cX2_leaveQueue 27 = .ok (.iload_n 2, 1) := by decide +kernel
theorem dX2_leaveQueue_28 : decode cX2_leaveQueue 28 = .ok (.isub, 1) := by decide +kernel
theorem dX2_leaveQueue_29 : decode cX2_leaveQueue 29 = .ok (.iconst 1, 1) := by decide +kernel
theorem dX2_leaveQueue_30 : decode cX2_leaveQueue 30 = .ok (.isub, 1) := by decide +kernel
theorem dX2_leaveQueue_31 : decode cX2_leaveQueue 31 = .ok (.invokestatic 182, 3) := by decide +kernel
theorem dX2_leaveQueue_34 : decode cX2_leaveQueue 34 = .ok (.aload_n 0, 1) := by decide +kernel
theorem dX2_leaveQueue_35 : decode cX2_leaveQueue 35 = .ok (.dup, 1) := by decide +kernel
theorem dX2_leaveQueue_36 : decode cX2_leaveQueue 36 = .ok (.getfield 62, 3) := by decide +kernel
theorem dX2_leaveQueue_39 : decode cX2_leaveQueue 39 = .ok (.iconst 1, 1) := by decide +kernel
theorem dX2_leaveQueue_40 : decode cX2_leaveQueue 40 = .ok (.isub, 1) := by decide +kernel
theorem dX2_leaveQueue_41 : decode cX2_leaveQueue 41 = .ok (.putfield 62, 3) := by decide +kernel
theorem dX2_leaveQueue_44 : decode cX2_leaveQueue 44 = .ok (.return_, 1) := by decide +kernel
theorem dX2_loseName_0 : decode cX2_loseName 0 = .ok (.aload_n 0, 1) := by decide +kernel
theorem dX2_loseName_1 : decode cX2_loseName 1 = .ok (.getfield 9, 3) := by decide +kernel
theorem dX2_loseName_4 : decode cX2_loseName 4 = .ok (.aload_n 0, 1) := by decide +kernel
theorem dX2_loseName_5 : decode cX2_loseName 5 = .ok (.getfield 21, 3) := by decide +kernel
theorem dX2_loseName_8 : decode cX2_loseName 8 = .ok (.iload_n 1, 1) := by decide +kernel
theorem dX2_loseName_9 : decode cX2_loseName 9 = .ok (.iaload, 1) := by decide +kernel
theorem dX2_loseName_10 : decode cX2_loseName 10 = .ok (.iconst (-1), 1) := by decide +kernel
theorem dX2_loseName_11 : decode cX2_loseName 11 = .ok (.iastore, 1) := by decide +kernel
theorem dX2_loseName_12 : decode cX2_loseName 12 = .ok (.aload_n 0, 1) := by decide +kernel
theorem dX2_loseName_13 : decode cX2_loseName 13 = .ok (.getfield 21, 3) := by decide +kernel
theorem dX2_loseName_16 : decode cX2_loseName 16 = .ok (.iload_n 1, 1) := by decide +kernel
theorem dX2_loseName_17 : decode cX2_loseName 17 = .ok (.iconst (-1), 1) := by decide +kernel
theorem dX2_loseName_18 : decode cX2_loseName 18 = .ok (.iastore, 1) := by decide +kernel
theorem dX2_loseName_19 : decode cX2_loseName 19 = .ok (.return_, 1) := by decide +kernel
theorem dX2_passMondays_0 : decode cX2_passMondays 0 = .ok (.iconst 0, 1) := by decide +kernel
theorem dX2_passMondays_1 : decode cX2_passMondays 1 = .ok (.istore_n 2, 1) := by decide +kernel
theorem dX2_passMondays_2 : decode cX2_passMondays 2 = .ok (.iload_n 2, 1) := by decide +kernel
theorem dX2_passMondays_3 : decode cX2_passMondays 3 = .ok (.iload_n 1, 1) := by decide +kernel
theorem dX2_passMondays_4 : decode cX2_passMondays 4 = .ok (.if_icmp .ge 13, 3) := by decide +kernel
theorem dX2_passMondays_7 : decode cX2_passMondays 7 = .ok (.aload_n 0, 1) := by decide +kernel
theorem dX2_passMondays_8 : decode cX2_passMondays 8 = .ok (.invokevirtual 188, 3) := by decide +kernel
theorem dX2_passMondays_11 : decode cX2_passMondays 11 = .ok (.iinc 2 1, 3) := by decide +kernel
theorem dX2_passMondays_14 : decode cX2_passMondays 14 = .ok (.goto (-12), 3) := by decide +kernel
theorem dX2_passMondays_17 : decode cX2_passMondays 17 = .ok (.return_, 1) := by decide +kernel
theorem dX2_perish_0 : decode cX2_perish 0 = .ok (.aload_n 0, 1) := by decide +kernel
theorem dX2_perish_1 : decode cX2_perish 1 = .ok (.getfield 21, 3) := by decide +kernel
theorem dX2_perish_4 : decode cX2_perish 4 = .ok (.iload_n 1, 1) := by decide +kernel
theorem dX2_perish_5 : decode cX2_perish 5 = .ok (.iaload, 1) := by decide +kernel
theorem dX2_perish_6 : decode cX2_perish 6 = .ok (.istore_n 3, 1) := by decide +kernel
theorem dX2_perish_7 : decode cX2_perish 7 = .ok (.aload_n 0, 1) := by decide +kernel
theorem dX2_perish_8 : decode cX2_perish 8 = .ok (.dup, 1) := by decide +kernel
theorem dX2_perish_9 : decode cX2_perish 9 = .ok (.getfield 50, 3) := by decide +kernel
theorem dX2_perish_12 : decode cX2_perish 12 = .ok (.iconst 1, 1) := by decide +kernel
theorem dX2_perish_13 : decode cX2_perish 13 = .ok (.iload_n 1, 1) := by decide +kernel
theorem dX2_perish_14 : decode cX2_perish 14 = .ok (.ishl, 1) := by decide +kernel
theorem dX2_perish_15 : decode cX2_perish 15 = .ok (.iconst (-1), 1) := by decide +kernel
theorem dX2_perish_16 : decode cX2_perish 16 = .ok (.ixor, 1) := by decide +kernel
theorem dX2_perish_17 : decode cX2_perish 17 = .ok (.iand, 1) := by decide +kernel
theorem dX2_perish_18 : decode cX2_perish 18 = .ok (.putfield 50, 3) := by decide +kernel
theorem dX2_perish_21 : decode cX2_perish 21 = .ok (.aload_n 0, 1) := by decide +kernel
theorem dX2_perish_22 : decode cX2_perish 22 = .ok (.iload_n 1, 1) := by decide +kernel
theorem dX2_perish_23 : decode cX2_perish 23 = .ok (.invokevirtual 171, 3) := by decide +kernel
theorem dX2_perish_26 : decode cX2_perish 26 = .ok (.iload_n 3, 1) := by decide +kernel
theorem dX2_perish_27 : decode cX2_perish 27 = .ok (.iconst (-1), 1) := by decide +kernel
theorem dX2_perish_28 : decode cX2_perish 28 = .ok (.if_icmp .eq 25, 3) := by decide +kernel
theorem dX2_perish_31 : decode cX2_perish 31 = .ok (.aload_n 0, 1) := by decide +kernel
theorem dX2_perish_32 : decode cX2_perish 32 = .ok (.iload_n 1, 1) := by decide +kernel
theorem dX2_perish_33 : decode cX2_perish 33 = .ok (.invokevirtual 174, 3) := by decide +kernel
theorem dX2_perish_36 : decode cX2_perish 36 = .ok (.iload_n 2, 1) := by decide +kernel
theorem dX2_perish_37 : decode cX2_perish 37 = .ok (.ifCond .eq 16, 3) := by decide +kernel
theorem dX2_perish_40 : decode cX2_perish 40 = .ok (.aload_n 0, 1) := by decide +kernel
theorem dX2_perish_41 : decode cX2_perish 41 = .ok (.getfield 18, 3) := by decide +kernel
theorem dX2_perish_44 : decode cX2_perish 44 = .ok (.iload_n 3, 1) := by decide +kernel
theorem dX2_perish_45 : decode cX2_perish 45 = .ok (.aload_n 0, 1) := by decide +kernel
theorem dX2_perish_46 : decode cX2_perish 46 = .ok (.getfield 41, 3) := by decide +kernel
theorem dX2_perish_49 : decode cX2_perish 49 = .ok (.bipush 12, 2) := by decide +kernel
theorem dX2_perish_51 : decode cX2_perish 51 = .ok (.iadd, 1) := by decide +kernel
theorem dX2_perish_52 : decode cX2_perish 52 = .ok (.iastore, 1) := by decide +kernel
theorem dX2_perish_53 : decode cX2_perish 53 = .ok (.return_, 1) := by decide +kernel
theorem dX2_waitAhead_0 : decode cX2_waitAhead 0 = .ok (.iconst 0, 1) := by decide +kernel
theorem dX2_waitAhead_1 : decode cX2_waitAhead 1 = .ok (.istore_n 2, 1) := by decide +kernel
theorem dX2_waitAhead_2 : decode cX2_waitAhead 2 = .ok (.iload_n 2, 1) := by decide +kernel
theorem dX2_waitAhead_3 : decode cX2_waitAhead 3 = .ok (.aload_n 0, 1) := by decide +kernel
theorem dX2_waitAhead_4 : decode cX2_waitAhead 4 = .ok (.getfield 62, 3) := by decide +kernel
theorem dX2_waitAhead_7 : decode cX2_waitAhead 7 = .ok (.if_icmp .ge 21, 3) := by decide +kernel
theorem dX2_waitAhead_10 : decode cX2_waitAhead 10 = .ok (.aload_n 0, 1) := by decide +kernel
theorem dX2_waitAhead_11 : decode cX2_waitAhead 11 = .ok (.getfield 30, 3) := by decide +kernel
theorem dX2_waitAhead_14 : decode cX2_waitAhead 14 = .ok (.iload_n 2, 1) := by decide +kernel
theorem dX2_waitAhead_15 : decode cX2_waitAhead 15 = .ok (.iaload, 1) := by decide +kernel
theorem dX2_waitAhead_16 : decode cX2_waitAhead 16 = .ok (.iload_n 1, 1) := by decide +kernel
theorem dX2_waitAhead_17 : decode cX2_waitAhead 17 = .ok (.if_icmp .ne 5, 3) := by decide +kernel
theorem dX2_waitAhead_20 : decode cX2_waitAhead 20 = .ok (.iload_n 2, 1) := by decide +kernel
theorem dX2_waitAhead_21 : decode cX2_waitAhead 21 = .ok (.ireturn, 1) := by decide +kernel
theorem dX2_waitAhead_22 : decode cX2_waitAhead 22 = .ok (.iinc 2 1, 3) := by decide +kernel
theorem dX2_waitAhead_25 : decode cX2_waitAhead 25 = .ok (.goto (-23), 3) := by decide +kernel
theorem dX2_waitAhead_28 : decode cX2_waitAhead 28 = .ok (.iconst (-1), 1) := by decide +kernel
theorem dX2_waitAhead_29 : decode cX2_waitAhead 29 = .ok (.ireturn, 1) := by decide +kernel
theorem dX2_whyNotSwap_0 : decode cX2_whyNotSwap 0 = .ok (.iload_n 1, 1) := by decide +kernel
theorem dX2_whyNotSwap_1 : decode cX2_whyNotSwap 1 = .ok (.iload_n 2, 1) := by decide +kernel
theorem dX2_whyNotSwap_2 : decode cX2_whyNotSwap 2 = .ok (.if_icmp .ne 6, 3) := by decide +kernel
theorem dX2_whyNotSwap_5 : decode cX2_whyNotSwap 5 = .ok (.bipush 9, 2) := by decide +kernel
theorem dX2_whyNotSwap_7 : decode cX2_whyNotSwap 7 = .ok (.ireturn, 1) := by decide +kernel
theorem dX2_whyNotSwap_8 : decode cX2_whyNotSwap 8 = .ok (.aload_n 0, 1) := by decide +kernel
theorem dX2_whyNotSwap_9 : decode cX2_whyNotSwap 9 = .ok (.iload_n 1, 1) := by decide +kernel
theorem dX2_whyNotSwap_10 : decode cX2_whyNotSwap 10 = .ok (.invokevirtual 106, 3) := by decide +kernel
theorem dX2_whyNotSwap_13 : decode cX2_whyNotSwap 13 = .ok (.ifCond .eq 11, 3) := by decide +kernel
theorem dX2_whyNotSwap_16 : decode cX2_whyNotSwap 16 = .ok (.aload_n 0, 1) := by decide +kernel
theorem dX2_whyNotSwap_17 : decode cX2_whyNotSwap 17 = .ok (.iload_n 2, 1) := by decide +kernel
theorem dX2_whyNotSwap_18 : decode cX2_whyNotSwap 18 = .ok (.invokevirtual 106, 3) := by decide +kernel
theorem dX2_whyNotSwap_21 : decode cX2_whyNotSwap 21 = .ok (.ifCond .ne 5, 3) := by decide +kernel
theorem dX2_whyNotSwap_24 : decode cX2_whyNotSwap 24 = .ok (.iconst 1, 1) := by decide +kernel
theorem dX2_whyNotSwap_25 : decode cX2_whyNotSwap 25 = .ok (.ireturn, 1) := by decide +kernel
theorem dX2_whyNotSwap_26 : decode cX2_whyNotSwap 26 = .ok (.aload_n 0, 1) := by decide +kernel
theorem dX2_whyNotSwap_27 : decode cX2_whyNotSwap 27 = .ok (.getfield 21, 3) := by decide +kernel
theorem dX2_whyNotSwap_30 : decode cX2_whyNotSwap 30 = .ok (.iload_n 1, 1) := by decide +kernel
theorem dX2_whyNotSwap_31 : decode cX2_whyNotSwap 31 = .ok (.iaload, 1) := by decide +kernel
theorem dX2_whyNotSwap_32 : decode cX2_whyNotSwap 32 = .ok (.iconst (-1), 1) := by decide +kernel
theorem dX2_whyNotSwap_33 : decode cX2_whyNotSwap 33 = .ok (.if_icmp .eq 13, 3) := by decide +kernel
theorem dX2_whyNotSwap_36 : decode cX2_whyNotSwap 36 = .ok (.aload_n 0, 1) := by decide +kernel
theorem dX2_whyNotSwap_37 : decode cX2_whyNotSwap 37 = .ok (.getfield 21, 3) := by decide +kernel
theorem dX2_whyNotSwap_40 : decode cX2_whyNotSwap 40 = .ok (.iload_n 2, 1) := by decide +kernel
theorem dX2_whyNotSwap_41 : decode cX2_whyNotSwap 41 = .ok (.iaload, 1) := by decide +kernel
theorem dX2_whyNotSwap_42 : decode cX2_whyNotSwap 42 = .ok (.iconst (-1), 1) := by decide +kernel
theorem dX2_whyNotSwap_43 : decode cX2_whyNotSwap 43 = .ok (.if_icmp .ne 5, 3) := by decide +kernel
theorem dX2_whyNotSwap_46 : decode cX2_whyNotSwap 46 = .ok (.iconst 2, 1) := by decide +kernel
theorem dX2_whyNotSwap_47 : decode cX2_whyNotSwap 47 = .ok (.ireturn, 1) := by decide +kernel
theorem dX2_whyNotSwap_48 : decode cX2_whyNotSwap 48 = .ok (.aload_n 0, 1) := by decide +kernel
theorem dX2_whyNotSwap_49 : decode cX2_whyNotSwap 49 = .ok (.iload_n 1, 1) := by decide +kernel
theorem dX2_whyNotSwap_50 : decode cX2_whyNotSwap 50 = .ok (.invokevirtual 165, 3) := by decide +kernel
theorem dX2_whyNotSwap_53 : decode cX2_whyNotSwap 53 = .ok (.ifCond .ne 11, 3) := by decide +kernel
theorem dX2_whyNotSwap_56 : decode cX2_whyNotSwap 56 = .ok (.aload_n 0, 1) := by decide +kernel
theorem dX2_whyNotSwap_57 : decode cX2_whyNotSwap 57 = .ok (.iload_n 2, 1) := by decide +kernel
theorem dX2_whyNotSwap_58 : decode cX2_whyNotSwap 58 = .ok (.invokevirtual 165, 3) := by decide +kernel
theorem dX2_whyNotSwap_61 : decode cX2_whyNotSwap 61 = .ok (.ifCond .eq 7, 3) := by decide +kernel
theorem dX2_whyNotSwap_64 : decode cX2_whyNotSwap 64 = .ok (.iconst 3, 1) := by decide +kernel
theorem dX2_whyNotSwap_65 : decode cX2_whyNotSwap 65 = .ok (.goto 4, 3) := by decide +kernel
theorem dX2_whyNotSwap_68 : decode cX2_whyNotSwap 68 = .ok (.iconst 0, 1) := by decide +kernel
theorem dX2_whyNotSwap_69 : decode cX2_whyNotSwap 69 = .ok (.ireturn, 1) := by decide +kernel
theorem dX6_isWord_0 : decode cX6_isWord 0 = .ok (.lconst 0, 1) := by decide +kernel
theorem dX6_isWord_1 : decode cX6_isWord 1 = .ok (.lstore_n 2, 1) := by decide +kernel
theorem dX6_isWord_2 : decode cX6_isWord 2 = .ok (.iconst 0, 1) := by decide +kernel
theorem dX6_isWord_3 : decode cX6_isWord 3 = .ok (.istore 4, 2) := by decide +kernel
theorem dX6_isWord_5 : decode cX6_isWord 5 = .ok (.iload 4, 2) := by decide +kernel
theorem dX6_isWord_7 : decode cX6_isWord 7 = .ok (.aload_n 1, 1) := by decide +kernel
theorem dX6_isWord_8 : decode cX6_isWord 8 = .ok (.invokevirtual 29, 3) := by decide +kernel
theorem dX6_isWord_11 : decode cX6_isWord 11 = .ok (.if_icmp .ge 22, 3) := by decide +kernel
theorem dX6_isWord_14 : decode cX6_isWord 14 = .ok (.lload_n 2, 1) := by decide +kernel
theorem dX6_isWord_15 : decode cX6_isWord 15 = .ok (.bipush 8, 2) := by decide +kernel
theorem dX6_isWord_17 : decode cX6_isWord 17 = .ok (.lshl, 1) := by decide +kernel
theorem dX6_isWord_18 : decode cX6_isWord 18 = .ok (.aload_n 1, 1) := by decide +kernel
theorem dX6_isWord_19 : decode cX6_isWord 19 = .ok (.iload 4, 2) := by decide +kernel
theorem dX6_isWord_21 : decode cX6_isWord 21 = .ok (.invokevirtual 39, 3) := by decide +kernel
theorem dX6_isWord_24 : decode cX6_isWord 24 = .ok (.i2l, 1) := by decide +kernel
theorem dX6_isWord_25 : decode cX6_isWord 25 = .ok (.lor, 1) := by decide +kernel
theorem dX6_isWord_26 : decode cX6_isWord 26 = .ok (.lstore_n 2, 1) := by decide +kernel
theorem dX6_isWord_27 : decode cX6_isWord 27 = .ok (.iinc 4 1, 3) := by decide +kernel
theorem dX6_isWord_30 : decode cX6_isWord 30 = .ok (.goto (-25), 3) := by decide +kernel
theorem dX6_isWord_33 : decode cX6_isWord 33 = .ok (.aload_n 0, 1) := by decide +kernel
theorem dX6_isWord_34 : decode cX6_isWord 34 = .ok (.getfield 60, 3) := by decide +kernel
theorem dX6_isWord_37 : decode cX6_isWord 37 = .ok (.iconst 1, 1) := by decide +kernel
theorem dX6_isWord_38 : decode cX6_isWord 38 = .ok (.if_icmp .ne 16, 3) := by decide +kernel
theorem dX6_isWord_41 : decode cX6_isWord 41 = .ok (.lload_n 2, 1) := by decide +kernel
theorem dX6_isWord_42 : decode cX6_isWord 42 = .ok (.aload_n 0, 1) := by decide +kernel
theorem dX6_isWord_43 : decode cX6_isWord 43 = .ok (.getfield 69, 3) := by decide +kernel
theorem dX6_isWord_46 : decode cX6_isWord 46 = .ok (.lcmp, 1) := by decide +kernel
theorem dX6_isWord_47 : decode cX6_isWord 47 = .ok (.ifCond .ne 7, 3) := by decide +kernel
theorem dX6_isWord_50 : decode cX6_isWord 50 = .ok (.iconst 1, 1) := by decide +kernel
theorem dX6_isWord_51 : decode cX6_isWord 51 = .ok (.goto 4, 3) := by decide +kernel
theorem dX6_isWord_54 : decode cX6_isWord 54 = .ok (.iconst 0, 1) := by decide +kernel
theorem dX6_isWord_55 : decode cX6_isWord 55 = .ok (.ireturn, 1) := by decide +kernel
theorem dX6_put_0 : decode cX6_put 0 = .ok (.bipush 24, 2) := by decide +kernel
theorem dX6_put_2 : decode cX6_put 2 = .ok (.istore_n 2, 1) := by decide +kernel
theorem dX6_put_3 : decode cX6_put 3 = .ok (.iload_n 2, 1) := by decide +kernel
theorem dX6_put_4 : decode cX6_put 4 = .ok (.ifCond .lt 42, 3) := by decide +kernel
theorem dX6_put_7 : decode cX6_put 7 = .ok (.aload_n 0, 1) := by decide +kernel
theorem dX6_put_8 : decode cX6_put 8 = .ok (.getfield 43, 3) := by decide +kernel
theorem dX6_put_11 : decode cX6_put 11 = .ok (.sipush 940, 3) := by decide +kernel
theorem dX6_put_14 : decode cX6_put 14 = .ok (.if_icmp .ge 32, 3) := by decide +kernel
theorem dX6_put_17 : decode cX6_put 17 = .ok (.aload_n 0, 1) := by decide +kernel
theorem dX6_put_18 : decode cX6_put 18 = .ok (.getfield 11, 3) := by decide +kernel
theorem dX6_put_21 : decode cX6_put 21 = .ok (.aload_n 0, 1) := by decide +kernel
theorem dX6_put_22 : decode cX6_put 22 = .ok (.getfield 43, 3) := by decide +kernel
theorem dX6_put_25 : decode cX6_put 25 = .ok (.iload_n 1, 1) := by decide +kernel
theorem dX6_put_26 : decode cX6_put 26 = .ok (.iload_n 2, 1) := by decide +kernel
theorem dX6_put_27 : decode cX6_put 27 = .ok (.iushr, 1) := by decide +kernel
theorem dX6_put_28 : decode cX6_put 28 = .ok (.i2b, 1) := by decide +kernel
theorem dX6_put_29 : decode cX6_put 29 = .ok (.bastore, 1) := by decide +kernel
theorem dX6_put_30 : decode cX6_put 30 = .ok (.aload_n 0, 1) := by decide +kernel
theorem dX6_put_31 : decode cX6_put 31 = .ok (.dup, 1) := by decide +kernel
theorem dX6_put_32 : decode cX6_put 32 = .ok (.getfield 43, 3) := by decide +kernel
theorem dX6_put_35 : decode cX6_put 35 = .ok (.iconst 1, 1) := by decide +kernel
theorem dX6_put_36 : decode cX6_put 36 = .ok (.iadd, 1) := by decide +kernel
theorem dX6_put_37 : decode cX6_put 37 = .ok (.putfield 43, 3) := by decide +kernel
theorem dX6_put_40 : decode cX6_put 40 = .ok (.iinc 2 (-8), 3) := by decide +kernel
theorem dX6_put_43 : decode cX6_put 43 = .ok (.goto (-40), 3) := by decide +kernel
theorem dX6_put_46 : decode cX6_put 46 = .ok (.return_, 1) := by decide +kernel
theorem dX7_addSoul_0 : decode cX7_addSoul 0 = .ok (.aload_n 0, 1) := by decide +kernel
theorem dX7_addSoul_1 : decode cX7_addSoul 1 = .ok (.getfield 47, 3) := by decide +kernel
theorem dX7_addSoul_4 : decode cX7_addSoul 4 = .ok (.bipush 9, 2) := by decide +kernel
theorem dX7_addSoul_6 : decode cX7_addSoul 6 = .ok (.if_icmp .ge 95, 3) := by decide +kernel
theorem dX7_addSoul_9 : decode cX7_addSoul 9 = .ok (.aload_n 0, 1) := by decide +kernel
theorem dX7_addSoul_10 : decode cX7_addSoul 10 = .ok (.getfield 25, 3) := by decide +kernel
theorem dX7_addSoul_13 : decode cX7_addSoul 13 = .ok (.aload_n 0, 1) := by decide +kernel
theorem dX7_addSoul_14 : decode cX7_addSoul 14 = .ok (.getfield 47, 3) := by decide +kernel
theorem dX7_addSoul_17 : decode cX7_addSoul 17 = .ok (.lload_n 1, 1) := by decide +kernel
theorem dX7_addSoul_18 : decode cX7_addSoul 18 = .ok (.lastore, 1) := by decide +kernel
theorem dX7_addSoul_19 : decode cX7_addSoul 19 = .ok (.aload_n 0, 1) := by decide +kernel
theorem dX7_addSoul_20 : decode cX7_addSoul 20 = .ok (.getfield 28, 3) := by decide +kernel
theorem dX7_addSoul_23 : decode cX7_addSoul 23 = .ok (.aload_n 0, 1) := by decide +kernel
theorem dX7_addSoul_24 : decode cX7_addSoul 24 = .ok (.getfield 47, 3) := by decide +kernel
theorem dX7_addSoul_27 : decode cX7_addSoul 27 = .ok (.iload_n 3, 1) := by decide +kernel
theorem dX7_addSoul_28 : decode cX7_addSoul 28 = .ok (.iastore, 1) := by decide +kernel
theorem dX7_addSoul_29 : decode cX7_addSoul 29 = .ok (.aload_n 0, 1) := by decide +kernel
theorem dX7_addSoul_30 : decode cX7_addSoul 30 = .ok (.getfield 31, 3) := by decide +kernel
theorem dX7_addSoul_33 : decode cX7_addSoul 33 = .ok (.aload_n 0, 1) := by decide +kernel
theorem dX7_addSoul_34 : decode cX7_addSoul 34 = .ok (.getfield 47, 3) := by decide +kernel
theorem dX7_addSoul_37 : decode cX7_addSoul 37 = .ok (.iconst (-1), 1) := by decide +kernel
theorem dX7_addSoul_38 : decode cX7_addSoul 38 = .ok (.iastore, 1) := by decide +kernel
theorem dX7_addSoul_39 : decode cX7_addSoul 39 = .ok (.aload_n 0, 1) := by decide +kernel
theorem dX7_addSoul_40 : decode cX7_addSoul 40 = .ok (.getfield 34, 3) := by decide +kernel
theorem dX7_addSoul_43 : decode cX7_addSoul 43 = .ok (.aload_n 0, 1) := by decide +kernel
theorem dX7_addSoul_44 : decode cX7_addSoul 44 = .ok (.getfield 47, 3) := by decide +kernel
theorem dX7_addSoul_47 : decode cX7_addSoul 47 = .ok (.iconst (-1), 1) := by decide +kernel
theorem dX7_addSoul_48 : decode cX7_addSoul 48 = .ok (.iastore, 1) := by decide +kernel
theorem dX7_addSoul_49 : decode cX7_addSoul 49 = .ok (.aload_n 0, 1) := by decide +kernel
theorem dX7_addSoul_50 : decode cX7_addSoul 50 = .ok (.getfield 37, 3) := by decide +kernel
theorem dX7_addSoul_53 : decode cX7_addSoul 53 = .ok (.aload_n 0, 1) := by decide +kernel
theorem dX7_addSoul_54 : decode cX7_addSoul 54 = .ok (.getfield 47, 3) := by decide +kernel
theorem dX7_addSoul_57 : decode cX7_addSoul 57 = .ok (.iconst (-1), 1) := by decide +kernel
theorem dX7_addSoul_58 : decode cX7_addSoul 58 = .ok (.iastore, 1) := by decide +kernel
theorem dX7_addSoul_59 : decode cX7_addSoul 59 = .ok (.iconst 0, 1) := by decide +kernel
theorem dX7_addSoul_60 : decode cX7_addSoul 60 = .ok (.istore 4, 2) := by decide +kernel
theorem dX7_addSoul_62 : decode cX7_addSoul 62 = .ok (.iload 4, 2) := by decide +kernel
theorem dX7_addSoul_64 : decode cX7_addSoul 64 = .ok (.bipush 9, 2) := by decide +kernel
theorem dX7_addSoul_66 : decode cX7_addSoul 66 = .ok (.if_icmp .ge 25, 3) := by decide +kernel
theorem dX7_addSoul_69 : decode cX7_addSoul 69 = .ok (.aload_n 0, 1) := by decide +kernel
theorem dX7_addSoul_70 : decode cX7_addSoul 70 = .ok (.getfield 40, 3) := by decide +kernel
theorem dX7_addSoul_73 : decode cX7_addSoul 73 = .ok (.aload_n 0, 1) := by decide +kernel
theorem dX7_addSoul_74 : decode cX7_addSoul 74 = .ok (.getfield 47, 3) := by decide +kernel
theorem dX7_addSoul_77 : decode cX7_addSoul 77 = .ok (.bipush 9, 2) := by decide +kernel
theorem dX7_addSoul_79 : decode cX7_addSoul 79 = .ok (.imul, 1) := by decide +kernel
theorem dX7_addSoul_80 : decode cX7_addSoul 80 = .ok (.iload 4, 2) := by decide +kernel
theorem dX7_addSoul_82 : decode cX7_addSoul 82 = .ok (.iadd, 1) := by decide +kernel
theorem dX7_addSoul_83 : decode cX7_addSoul 83 = .ok (.iconst 0, 1) := by decide +kernel
theorem dX7_addSoul_84 : decode cX7_addSoul 84 = .ok (.iastore, 1) := by decide +kernel
theorem dX7_addSoul_85 : decode cX7_addSoul 85 = .ok (.iinc 4 1, 3) := by decide +kernel
theorem dX7_addSoul_88 : decode cX7_addSoul 88 = .ok (.goto (-26), 3) := by decide +kernel
theorem dX7_addSoul_91 : decode cX7_addSoul 91 = .ok (.aload_n 0, 1) := by decide +kernel
theorem dX7_addSoul_92 : decode cX7_addSoul 92 = .ok (.dup, 1) := by decide +kernel
theorem dX7_addSoul_93 : decode cX7_addSoul 93 = .ok (.getfield 47, 3) := by decide +kernel
theorem dX7_addSoul_96 : decode cX7_addSoul 96 = .ok (.iconst 1, 1) := by decide +kernel
theorem dX7_addSoul_97 : decode cX7_addSoul 97 = .ok (.iadd, 1) := by decide +kernel
theorem dX7_addSoul_98 : decode cX7_addSoul 98 = .ok (.putfield 47, 3) := by decide +kernel
theorem dX7_addSoul_101 : decode cX7_addSoul 101 = .ok (.return_, 1) := by decide +kernel
theorem dX7_find_0 : decode cX7_find 0 = .ok (.iconst 0, 1) := by decide +kernel
theorem dX7_find_1 : decode cX7_find 1 = .ok (.istore 4, 2) := by decide +kernel
theorem dX7_find_3 : decode cX7_find 3 = .ok (.iload 4, 2) := by decide +kernel
theorem dX7_find_5 : decode cX7_find 5 = .ok (.iload_n 3, 1) := by decide +kernel
theorem dX7_find_6 : decode cX7_find 6 = .ok (.if_icmp .ge 28, 3) := by decide +kernel
theorem dX7_find_9 : decode cX7_find 9 = .ok (.iload 4, 2) := by decide +kernel
theorem dX7_find_11 : decode cX7_find 11 = .ok (.aload_n 2, 1) := by decide +kernel
theorem dX7_find_12 : decode cX7_find 12 = .ok (.arraylength, 1) := by decide +kernel
theorem dX7_find_13 : decode cX7_find 13 = .ok (.if_icmp .ge 21, 3) := by decide +kernel
theorem dX7_find_16 : decode cX7_find 16 = .ok (.aload_n 2, 1) := by decide +kernel
theorem dX7_find_17 : decode cX7_find 17 = .ok (.iload 4, 2) := by decide +kernel
theorem dX7_find_19 : decode cX7_find 19 = .ok (.laload, 1) := by decide +kernel
theorem dX7_find_20 : decode cX7_find 20 = .ok (.lload_n 0, 1) := by decide +kernel
theorem dX7_find_21 : decode cX7_find 21 = .ok (.lcmp, 1) := by decide +kernel
theorem dX7_find_22 : decode cX7_find 22 = .ok (.ifCond .ne 6, 3) := by decide +kernel
theorem dX7_find_25 : decode cX7_find 25 = .ok (.iload 4, 2) := by decide +kernel
theorem dX7_find_27 : decode cX7_find 27 = .ok (.ireturn, 1) := by decide +kernel
theorem dX7_find_28 : decode cX7_find 28 = .ok (.iinc 4 1, 3) := by decide +kernel
theorem dX7_find_31 : decode cX7_find 31 = .ok (.goto (-28), 3) := by decide +kernel
theorem dX7_find_34 : decode cX7_find 34 = .ok (.iconst (-1), 1) := by decide +kernel
theorem dX7_find_35 : decode cX7_find 35 = .ok (.ireturn, 1) := by decide +kernel
theorem dX7_isFeast_0 : decode cX7_isFeast 0 = .ok (.iload_n 1, 1) := by decide +kernel
theorem dX7_isFeast_1 : decode cX7_isFeast 1 = .ok (.ifCond .lt 35, 3) := by decide +kernel
theorem dX7_isFeast_4 : decode cX7_isFeast 4 = .ok (.iload_n 1, 1) := by decide +kernel
theorem dX7_isFeast_5 : decode cX7_isFeast 5 = .ok (.aload_n 0, 1) := by decide +kernel
theorem dX7_isFeast_6 : decode cX7_isFeast 6 = .ok (.getfield 43, 3) := by decide +kernel
theorem dX7_isFeast_9 : decode cX7_isFeast 9 = .ok (.if_icmp .ge 27, 3) := by decide +kernel
theorem dX7_isFeast_12 : decode cX7_isFeast 12 = .ok (.aload_n 0, 1) := by decide +kernel
theorem dX7_isFeast_13 : decode cX7_isFeast 13 = .ok (.getfield 22, 3) := by decide +kernel
theorem dX7_isFeast_16 : decode cX7_isFeast 16 = .ok (.iload_n 1, 1) := by decide +kernel
theorem dX7_isFeast_17 : decode cX7_isFeast 17 = .ok (.iaload, 1) := by decide +kernel
theorem dX7_isFeast_18 : decode cX7_isFeast 18 = .ok (.ifCond .le 18, 3) := by decide +kernel
theorem dX7_isFeast_21 : decode cX7_isFeast 21 = .ok (.iload_n 2, 1) := by decide +kernel
theorem dX7_isFeast_22 : decode cX7_isFeast 22 = .ok (.aload_n 0, 1) := by decide +kernel
theorem dX7_isFeast_23 : decode cX7_isFeast 23 = .ok (.getfield 22, 3) := by decide +kernel
theorem dX7_isFeast_26 : decode cX7_isFeast 26 = .ok (.iload_n 1, 1) := by decide +kernel
theorem dX7_isFeast_27 : decode cX7_isFeast 27 = .ok (.iaload, 1) := by decide +kernel
theorem dX7_isFeast_28 : decode cX7_isFeast 28 = .ok (.irem, 1) := by decide +kernel
theorem dX7_isFeast_29 : decode cX7_isFeast 29 = .ok (.ifCond .ne 7, 3) := by decide +kernel
theorem dX7_isFeast_32 : decode cX7_isFeast 32 = .ok (.iconst 1, 1) := by decide +kernel
theorem dX7_isFeast_33 : decode cX7_isFeast 33 = .ok (.goto 4, 3) := by decide +kernel
theorem dX7_isFeast_36 : decode cX7_isFeast 36 = .ok (.iconst 0, 1) := by decide +kernel
theorem dX7_isFeast_37 : decode cX7_isFeast 37 = .ok (.ireturn, 1) := by decide +kernel
theorem dX7_isName_0 : decode cX7_isName 0 = .ok (.iload_n 1, 1) := by decide +kernel
theorem dX7_isName_1 : decode cX7_isName 1 = .ok (.ifCond .lt 15, 3) := by decide +kernel
theorem dX7_isName_4 : decode cX7_isName 4 = .ok (.iload_n 1, 1) := by decide +kernel
theorem dX7_isName_5 : decode cX7_isName 5 = .ok (.aload_n 0, 1) := by decide +kernel
theorem dX7_isName_6 : decode cX7_isName 6 = .ok (.getfield 43, 3) := by decide +kernel
theorem dX7_isName_9 : decode cX7_isName 9 = .ok (.if_icmp .ge 7, 3) := by decide +kernel
theorem dX7_isName_12 : decode cX7_isName 12 = .ok (.iconst 1, 1) := by decide +kernel
theorem dX7_isName_13 : decode cX7_isName 13 = .ok (.goto 4, 3) := by decide +kernel
theorem dX7_isName_16 : decode cX7_isName 16 = .ok (.iconst 0, 1) := by decide +kernel
theorem dX7_isName_17 : decode cX7_isName 17 = .ok (.ireturn, 1) := by decide +kernel
theorem dX9_keep_0 : decode cX9_keep 0 = .ok (.aload_n 0, 1) := by decide +kernel
theorem dX9_keep_1 : decode cX9_keep 1 = .ok (.getfield 11, 3) := by decide +kernel
theorem dX9_keep_4 : decode cX9_keep 4 = .ok (.aload_n 0, 1) := by decide +kernel
theorem dX9_keep_5 : decode cX9_keep 5 = .ok (.getfield 18, 3) := by decide +kernel
theorem dX9_keep_8 : decode cX9_keep 8 = .ok (.aaload, 1) := by decide +kernel
theorem dX9_keep_9 : decode cX9_keep 9 = .ok (.aload_n 1, 1) := by decide +kernel
theorem dX9_keep_10 : decode cX9_keep 10 = .ok (.invokevirtual 22, 3) := by decide +kernel
theorem dX9_keep_13 : decode cX9_keep 13 = .ok (.aload_n 0, 1) := by decide +kernel
theorem dX9_keep_14 : decode cX9_keep 14 = .ok (.aload_n 0, 1) := by decide +kernel
theorem dX9_keep_15 : decode cX9_keep 15 = .ok (.getfield 18, 3) := by decide +kernel
theorem dX9_keep_18 : decode cX9_keep 18 = .ok (.iconst 1, 1) := by decide +kernel
theorem dX9_keep_19 : decode cX9_keep 19 = .ok (.iadd, 1) := by decide +kernel
theorem dX9_keep_20 : decode cX9_keep 20 = .ok (.iconst 4, 1) := by decide +kernel
theorem dX9_keep_21 : decode cX9_keep 21 = .ok (.irem, 1) := by decide +kernel
theorem dX9_keep_22 : decode cX9_keep 22 = .ok (.putfield 18, 3) := by decide +kernel
theorem dX9_keep_25 : decode cX9_keep 25 = .ok (.aload_n 0, 1) := by decide +kernel
theorem dX9_keep_26 : decode cX9_keep 26 = .ok (.aload_n 0, 1) := by decide +kernel
theorem dX9_keep_27 : decode cX9_keep 27 = .ok (.getfield 26, 3) := by decide +kernel
theorem dX9_keep_30 : decode cX9_keep 30 = .ok (.iconst 1, 1) := by decide +kernel
theorem dX9_keep_31 : decode cX9_keep 31 = .ok (.iadd, 1) := by decide +kernel
theorem dX9_keep_32 : decode cX9_keep 32 = .ok (.iconst 4, 1) := by decide +kernel
theorem dX9_keep_33 : decode cX9_keep 33 = .ok (.invokestatic 29, 3) := by decide +kernel
theorem dX9_keep_36 : decode cX9_keep 36 = .ok (.putfield 26, 3) := by decide +kernel
theorem dX9_keep_39 : decode cX9_keep 39 = .ok (.return_, 1) := by decide +kernel
