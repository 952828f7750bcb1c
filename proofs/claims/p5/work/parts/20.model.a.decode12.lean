theorem dX12_swapsNames_11 : decode cX12_swapsNames 11 = .ok (.aload_n 0, 1) := by decide +kernel
theorem dX12_swapsNames_12 : decode cX12_swapsNames 12 = .ok (.getfield 33, 3) := by decide +kernel
theorem dX12_swapsNames_15 : decode cX12_swapsNames 15 = .ok (.sipush 161, 3) := by decide +kernel
theorem dX12_swapsNames_18 : decode cX12_swapsNames 18 = .ok (.iload_n 1, 1) := by decide +kernel
theorem dX12_swapsNames_19 : decode cX12_swapsNames 19 = .ok (.iadd, 1) := by decide +kernel
theorem dX12_swapsNames_20 : decode cX12_swapsNames 20 = .ok (.aload_n 0, 1) := by decide +kernel
theorem dX12_swapsNames_21 : decode cX12_swapsNames 21 = .ok (.getfield 33, 3) := by decide +kernel
theorem dX12_swapsNames_24 : decode cX12_swapsNames 24 = .ok (.sipush 161, 3) := by decide +kernel
theorem dX12_swapsNames_27 : decode cX12_swapsNames 27 = .ok (.iload_n 2, 1) := by decide +kernel
theorem dX12_swapsNames_28 : decode cX12_swapsNames 28 = .ok (.iadd, 1) := by decide +kernel
theorem dX12_swapsNames_29 : decode cX12_swapsNames 29 = .ok (.iaload, 1) := by decide +kernel
theorem dX12_swapsNames_30 : decode cX12_swapsNames 30 = .ok (.iastore, 1) := by decide +kernel
theorem dX12_swapsNames_31 : decode cX12_swapsNames 31 = .ok (.aload_n 0, 1) := by decide +kernel
theorem dX12_swapsNames_32 : decode cX12_swapsNames 32 = .ok (.getfield 33, 3) := by decide +kernel
theorem dX12_swapsNames_35 : decode cX12_swapsNames 35 = .ok (.sipush 161, 3) := by decide +kernel
theorem dX12_swapsNames_38 : decode cX12_swapsNames 38 = .ok (.iload_n 2, 1) := by decide +kernel
theorem dX12_swapsNames_39 : decode cX12_swapsNames 39 = .ok (.iadd, 1) := by decide +kernel
theorem dX12_swapsNames_40 : decode cX12_swapsNames 40 = .ok (.iload_n 3, 1) := by decide +kernel
theorem dX12_swapsNames_41 : decode cX12_swapsNames 41 = .ok (.iastore, 1) := by decide +kernel
theorem dX12_swapsNames_42 : decode cX12_swapsNames 42 = .ok (.aload_n 0, 1) := by decide +kernel
theorem dX12_swapsNames_43 : decode cX12_swapsNames 43 = .ok (.iload_n 1, 1) := by decide +kernel
theorem dX12_swapsNames_44 : decode cX12_swapsNames 44 = .ok (.invokevirtual 271, 3) := by decide +kernel
theorem dX12_swapsNames_47 : decode cX12_swapsNames 47 = .ok (.aload_n 0, 1) := by decide +kernel
theorem dX12_swapsNames_48 : decode cX12_swapsNames 48 = .ok (.iload_n 2, 1) := by decide +kernel
theorem dX12_swapsNames_49 : decode cX12_swapsNames 49 = .ok (.invokevirtual 271, 3) := by decide +kernel
theorem dX12_swapsNames_52 : decode cX12_swapsNames 52 = .ok (.return_, 1) := by decide +kernel
theorem dX12_take_0 : decode cX12_take 0 = .ok (.aload_n 0, 1) := by decide +kernel
theorem dX12_take_1 : decode cX12_take 1 = .ok (.iconst 0, 1) := by decide +kernel
theorem dX12_take_2 : decode cX12_take 2 = .ok (.putfield 1, 3) := by decide +kernel
theorem dX12_take_5 : decode cX12_take 5 = .ok (.aload_n 0, 1) := by decide +kernel
theorem dX12_take_6 : decode cX12_take 6 = .ok (.iload_n 1, 1) := by decide +kernel
theorem dX12_take_7 : decode cX12_take 7 = .ok (.invokevirtual 236, 3) := by decide +kernel
theorem dX12_take_10 : decode cX12_take 10 = .ok (.ifCond .eq 11, 3) := by decide +kernel
theorem dX12_take_13 : decode cX12_take 13 = .ok (.aload_n 0, 1) := by decide +kernel
theorem dX12_take_14 : decode cX12_take 14 = .ok (.iload_n 2, 1) := by decide +kernel
theorem dX12_take_15 : decode cX12_take 15 = .ok (.invokevirtual 246, 3) := by decide +kernel
theorem dX12_take_18 : decode cX12_take 18 = .ok (.ifCond .ne 5, 3) := by decide +kernel
theorem dX12_take_21 : decode cX12_take 21 = .ok (.iconst (-1), 1) := by decide +kernel
theorem dX12_take_22 : decode cX12_take 22 = .ok (.ireturn, 1) := by decide +kernel
theorem dX12_take_23 : decode cX12_take 23 = .ok (.aload_n 0, 1) := by decide +kernel
theorem dX12_take_24 : decode cX12_take 24 = .ok (.iload_n 1, 1) := by decide +kernel
theorem dX12_take_25 : decode cX12_take 25 = .ok (.iload_n 2, 1) := by decide +kernel
theorem dX12_take_26 : decode cX12_take 26 = .ok (.invokevirtual 277, 3) := by decide +kernel
theorem dX12_take_29 : decode cX12_take 29 = .ok (.istore_n 3, 1) := by decide +kernel
theorem dX12_take_30 : decode cX12_take 30 = .ok (.iload_n 3, 1) := by decide +kernel
theorem dX12_take_31 : decode cX12_take 31 = .ok (.ifCond .le 5, 3) := by decide +kernel
theorem dX12_take_34 : decode cX12_take 34 = .ok (.iload_n 3, 1) := by decide +kernel
theorem dX12_take_35 : decode cX12_take 35 = .ok (.ireturn, 1) := by decide +kernel
theorem dX12_take_36 : decode cX12_take 36 = .ok (.aload_n 0, 1) := by decide +kernel
theorem dX12_take_37 : decode cX12_take 37 = .ok (.invokevirtual 280, 3) := by decide +kernel
theorem dX12_take_40 : decode cX12_take 40 = .ok (.aload_n 0, 1) := by decide +kernel
theorem dX12_take_41 : decode cX12_take 41 = .ok (.iload_n 1, 1) := by decide +kernel
theorem dX12_take_42 : decode cX12_take 42 = .ok (.iload_n 2, 1) := by decide +kernel
theorem dX12_take_43 : decode cX12_take 43 = .ok (.invokevirtual 283, 3) := by decide +kernel
theorem dX12_take_46 : decode cX12_take 46 = .ok (.iconst 0, 1) := by decide +kernel
theorem dX12_take_47 : decode cX12_take 47 = .ok (.ireturn, 1) := by decide +kernel
theorem dX12_taken_0 : decode cX12_taken 0 = .ok (.aload_n 0, 1) := by decide +kernel
theorem dX12_taken_1 : decode cX12_taken 1 = .ok (.aload_n 0, 1) := by decide +kernel
theorem dX12_taken_2 : decode cX12_taken 2 = .ok (.getfield 7, 3) := by decide +kernel
theorem dX12_taken_5 : decode cX12_taken 5 = .ok (.putfield 18, 3) := by decide +kernel
theorem dX12_taken_8 : decode cX12_taken 8 = .ok (.aload_n 0, 1) := by decide +kernel
theorem dX12_taken_9 : decode cX12_taken 9 = .ok (.iconst 0, 1) := by decide +kernel
theorem dX12_taken_10 : decode cX12_taken 10 = .ok (.putfield 7, 3) := by decide +kernel
theorem dX12_taken_13 : decode cX12_taken 13 = .ok (.aload_n 0, 1) := by decide +kernel
theorem dX12_taken_14 : decode cX12_taken 14 = .ok (.iconst 0, 1) := by decide +kernel
theorem dX12_taken_15 : decode cX12_taken 15 = .ok (.putfield 21, 3) := by decide +kernel
theorem dX12_taken_18 : decode cX12_taken 18 = .ok (.aload_n 0, 1) := by decide +kernel
theorem dX12_taken_19 : decode cX12_taken 19 = .ok (.iload_n 1, 1) := by decide +kernel
theorem dX12_taken_20 : decode cX12_taken 20 = .ok (.putfield 24, 3) := by decide +kernel
theorem dX12_taken_23 : decode cX12_taken 23 = .ok (.return_, 1) := by decide +kernel
theorem dX12_takes_0 : decode cX12_takes 0 = .ok (.aload_n 0, 1) := by decide +kernel
theorem dX12_takes_1 : decode cX12_takes 1 = .ok (.getfield 145, 3) := by decide +kernel
theorem dX12_takes_4 : decode cX12_takes 4 = .ok (.iconst 2, 1) := by decide +kernel
theorem dX12_takes_5 : decode cX12_takes 5 = .ok (.if_icmp .eq 9, 3) := by decide +kernel
theorem dX12_takes_8 : decode cX12_takes 8 = .ok (.aload_n 0, 1) := by decide +kernel
theorem dX12_takes_9 : decode cX12_takes 9 = .ok (.iconst 1, 1) := by decide +kernel
theorem dX12_takes_10 : decode cX12_takes 10 = .ok (.invokevirtual 171, 3) := by decide +kernel
theorem dX12_takes_13 : decode cX12_takes 13 = .ok (.ireturn, 1) := by decide +kernel
theorem dX12_takes_14 : decode cX12_takes 14 = .ok (.aload_n 0, 1) := by decide +kernel
theorem dX12_takes_15 : decode cX12_takes 15 = .ok (.getfield 155, 3) := by decide +kernel
theorem dX12_takes_18 : decode cX12_takes 18 = .ok (.iload_n 1, 1) := by decide +kernel
theorem dX12_takes_19 : decode cX12_takes 19 = .ok (.iload_n 2, 1) := by decide +kernel
theorem dX12_takes_20 : decode cX12_takes 20 = .ok (.invokestatic 177, 3) := by decide +kernel
theorem dX12_takes_23 : decode cX12_takes 23 = .ok (.ifCond .ne 9, 3) := by decide +kernel
theorem dX12_takes_26 : decode cX12_takes 26 = .ok (.aload_n 0, 1) := by decide +kernel
theorem dX12_takes_27 : decode cX12_takes 27 = .ok (.iconst 2, 1) := by decide +kernel
theorem dX12_takes_28 : decode cX12_takes 28 = .ok (.invokevirtual 171, 3) := by decide +kernel
theorem dX12_takes_31 : decode cX12_takes 31 = .ok (.ireturn, 1) := by decide +kernel
theorem dX12_takes_32 : decode cX12_takes 32 = .ok (.aload_n 0, 1) := by decide +kernel
theorem dX12_takes_33 : decode cX12_takes 33 = .ok (.aload_n 0, 1) := by decide +kernel
theorem dX12_takes_34 : decode cX12_takes 34 = .ok (.getfield 155, 3) := by decide +kernel
theorem dX12_takes_37 : decode cX12_takes 37 = .ok (.putfield 181, 3) := by decide +kernel
theorem dX12_takes_40 : decode cX12_takes 40 = .ok (.aload_n 0, 1) := by decide +kernel
theorem dX12_takes_41 : decode cX12_takes 41 = .ok (.invokevirtual 174, 3) := by decide +kernel
theorem dX12_takes_44 : decode cX12_takes 44 = .ok (.iconst 1, 1) := by decide +kernel
theorem dX12_takes_45 : decode cX12_takes 45 = .ok (.ireturn, 1) := by decide +kernel
theorem dX12_takesName_0 : decode cX12_takesName 0 = .ok (.aload_n 0, 1) := by decide +kernel
theorem dX12_takesName_1 : decode cX12_takesName 1 = .ok (.getfield 33, 3) := by decide +kernel
theorem dX12_takesName_4 : decode cX12_takesName 4 = .ok (.sipush 170, 3) := by decide +kernel
theorem dX12_takesName_7 : decode cX12_takesName 7 = .ok (.iload_n 1, 1) := by decide +kernel
theorem dX12_takesName_8 : decode cX12_takesName 8 = .ok (.iadd, 1) := by decide +kernel
theorem dX12_takesName_9 : decode cX12_takesName 9 = .ok (.dup2, 1) := by decide +kernel
theorem dX12_takesName_10 : decode cX12_takesName 10 = .ok (.iaload, 1) := by decide +kernel
theorem dX12_takesName_11 : decode cX12_takesName 11 = .ok (.aload_n 0, 1) := by decide +kernel
theorem dX12_takesName_12 : decode cX12_takesName 12 = .ok (.iload_n 2, 1) := by decide +kernel
theorem dX12_takesName_13 : decode cX12_takesName 13 = .ok (.invokevirtual 249, 3) := by decide +kernel
theorem dX12_takesName_16 : decode cX12_takesName 16 = .ok (.isub, 1) := by decide +kernel
theorem dX12_takesName_17 : decode cX12_takesName 17 = .ok (.iastore, 1) := by decide +kernel
theorem dX12_takesName_18 : decode cX12_takesName 18 = .ok (.aload_n 0, 1) := by decide +kernel
theorem dX12_takesName_19 : decode cX12_takesName 19 = .ok (.getfield 33, 3) := by decide +kernel
theorem dX12_takesName_22 : decode cX12_takesName 22 = .ok (.sipush 161, 3) := by decide +kernel
theorem dX12_takesName_25 : decode cX12_takesName 25 = .ok (.iload_n 1, 1) := by decide +kernel
theorem dX12_takesName_26 : decode cX12_takesName 26 = .ok (.iadd, 1) := by decide +kernel
theorem dX12_takesName_27 : decode cX12_takesName 27 = .ok (.iload_n 2, 1) := by decide +kernel
theorem dX12_takesName_28 : decode cX12_takesName 28 = .ok (.iconst 1, 1) := by decide +kernel
theorem dX12_takesName_29 : decode cX12_takesName 29 = .ok (.iadd, 1) := by decide +kernel
theorem dX12_takesName_30 : decode cX12_takesName 30 = .ok (.iastore, 1) := by decide +kernel
theorem dX12_takesName_31 : decode cX12_takesName 31 = .ok (.aload_n 0, 1) := by decide +kernel
theorem dX12_takesName_32 : decode cX12_takesName 32 = .ok (.iload_n 1, 1) := by decide +kernel
theorem dX12_takesName_33 : decode cX12_takesName 33 = .ok (.invokevirtual 268, 3) := by decide +kernel
theorem dX12_takesName_36 : decode cX12_takesName 36 = .ok (.aload_n 0, 1) := by decide +kernel
theorem dX12_takesName_37 : decode cX12_takesName 37 = .ok (.iload_n 1, 1) := by decide +kernel
theorem dX12_takesName_38 : decode cX12_takesName 38 = .ok (.invokevirtual 271, 3) := by decide +kernel
theorem dX12_takesName_41 : decode cX12_takesName 41 = .ok (.return_, 1) := by decide +kernel
theorem dX12_throwsIf_0 : decode cX12_throwsIf 0 = .ok (.aload_n 0, 1) := by decide +kernel
theorem dX12_throwsIf_1 : decode cX12_throwsIf 1 = .ok (.iload_n 1, 1) := by decide +kernel
theorem dX12_throwsIf_2 : decode cX12_throwsIf 2 = .ok (.ifCond .eq 7, 3) := by decide +kernel
theorem dX12_throwsIf_5 : decode cX12_throwsIf 5 = .ok (.iconst 1, 1) := by decide +kernel
theorem dX12_throwsIf_6 : decode cX12_throwsIf 6 = .ok (.goto 4, 3) := by decide +kernel
theorem dX12_throwsIf_9 : decode cX12_throwsIf 9 = .ok (.iconst 0, 1) := by decide +kernel
theorem dX12_throwsIf_10 : decode cX12_throwsIf 10 = .ok (.putfield 1, 3) := by decide +kernel
theorem dX12_throwsIf_13 : decode cX12_throwsIf 13 = .ok (.iload_n 1, 1) := by decide +kernel
theorem dX12_throwsIf_14 : decode cX12_throwsIf 14 = .ok (.ireturn, 1) := by decide +kernel
theorem dX12_town_0 : decode cX12_town 0 = .ok (.aload_n 0, 1) := by decide +kernel
theorem dX12_town_1 : decode cX12_town 1 = .ok (.iconst 0, 1) := by decide +kernel
theorem dX12_town_2 : decode cX12_town 2 = .ok (.putfield 1, 3) := by decide +kernel
theorem dX12_town_5 : decode cX12_town 5 = .ok (.aload_n 0, 1) := by decide +kernel
theorem dX12_town_6 : decode cX12_town 6 = .ok (.sipush 900, 3) := by decide +kernel
theorem dX12_town_9 : decode cX12_town 9 = .ok (.invokevirtual 218, 3) := by decide +kernel
theorem dX12_town_12 : decode cX12_town 12 = .ok (.aload_n 0, 1) := by decide +kernel
theorem dX12_town_13 : decode cX12_town 13 = .ok (.iconst 0, 1) := by decide +kernel
theorem dX12_town_14 : decode cX12_town 14 = .ok (.putfield 162, 3) := by decide +kernel
theorem dX12_town_17 : decode cX12_town 17 = .ok (.aload_n 0, 1) := by decide +kernel
theorem dX12_town_18 : decode cX12_town 18 = .ok (.iconst 0, 1) := by decide +kernel
theorem dX12_town_19 : decode cX12_town 19 = .ok (.putfield 221, 3) := by decide +kernel
theorem dX12_town_22 : decode cX12_town 22 = .ok (.aload_n 0, 1) := by decide +kernel
theorem dX12_town_23 : decode cX12_town 23 = .ok (.iconst 0, 1) := by decide +kernel
theorem dX12_town_24 : decode cX12_town 24 = .ok (.putfield 212, 3) := by decide +kernel
theorem dX12_town_27 : decode cX12_town 27 = .ok (.iconst 0, 1) := by decide +kernel
theorem dX12_town_28 : decode cX12_town 28 = .ok (.istore_n 1, 1) := by decide +kernel
theorem dX12_town_29 : decode cX12_town 29 = .ok (.iload_n 1, 1) := by decide +kernel
theorem dX12_town_30 : decode cX12_town 30 = .ok (.sipush 146, 3) := by decide +kernel
theorem dX12_town_33 : decode cX12_town 33 = .ok (.if_icmp .ge 16, 3) := by decide +kernel
theorem dX12_town_36 : decode cX12_town 36 = .ok (.aload_n 0, 1) := by decide +kernel
theorem dX12_town_37 : decode cX12_town 37 = .ok (.getfield 37, 3) := by decide +kernel
theorem dX12_town_40 : decode cX12_town 40 = .ok (.iload_n 1, 1) := by decide +kernel
theorem dX12_town_41 : decode cX12_town 41 = .ok (.iconst 0, 1) := by decide +kernel
theorem dX12_town_42 : decode cX12_town 42 = .ok (.iastore, 1) := by decide +kernel
theorem dX12_town_43 : decode cX12_town 43 = .ok (.iinc 1 1, 3) := by decide +kernel
theorem dX12_town_46 : decode cX12_town 46 = .ok (.goto (-17), 3) := by decide +kernel
theorem dX12_town_49 : decode cX12_town 49 = .ok (.aload_n 0, 1) := by decide +kernel
theorem dX12_town_50 : decode cX12_town 50 = .ok (.invokevirtual 174, 3) := by decide +kernel
theorem dX12_town_53 : decode cX12_town 53 = .ok (.aload_n 0, 1) := by decide +kernel
theorem dX12_town_54 : decode cX12_town 54 = .ok (.getfield 145, 3) := by decide +kernel
theorem dX12_town_57 : decode cX12_town 57 = .ok (.ifCond .eq 39, 3) := by decide +kernel
theorem dX12_town_60 : decode cX12_town 60 = .ok (.aload_n 0, 1) := by decide +kernel
theorem dX12_town_61 : decode cX12_town 61 = .ok (.invokevirtual 224, 3) := by decide +kernel
theorem dX12_town_64 : decode cX12_town 64 = .ok (.ifCond .eq 12, 3) := by decide +kernel
theorem dX12_town_67 : decode cX12_town 67 = .ok (.aload_n 0, 1) := by decide +kernel
theorem dX12_town_68 : decode cX12_town 68 = .ok (.bipush 59, 2) := by decide +kernel
theorem dX12_town_70 : decode cX12_town 70 = .ok (.invokevirtual 227, 3) := by decide +kernel
theorem dX12_town_73 : decode cX12_town 73 = .ok (.ifCond .ne 10, 3) := by decide +kernel
theorem dX12_town_76 : decode cX12_town 76 = .ok (.iconst (-1), 1) := by decide +kernel
theorem dX12_town_77 : decode cX12_town 77 = .ok (.aload_n 0, 1) := by decide +kernel
theorem dX12_town_78 : decode cX12_town 78 = .ok (.getfield 165, 3) := by decide +kernel
theorem dX12_town_81 : decode cX12_town 81 = .ok (.isub, 1) := by decide +kernel
theorem dX12_town_82 : decode cX12_town 82 = .ok (.ireturn, 1) := by decide +kernel
theorem dX12_town_83 : decode cX12_town 83 = .ok (.aload_n 0, 1) := by decide +kernel
theorem dX12_town_84 : decode cX12_town 84 = .ok (.dup, 1) := by decide +kernel
theorem dX12_town_85 : decode cX12_town 85 = .ok (.getfield 221, 3) := by decide +kernel
theorem dX12_town_88 : decode cX12_town 88 = .ok (.iconst 1, 1) := by decide +kernel
theorem dX12_town_89 : decode cX12_town 89 = .ok (.iadd, 1) := by decide +kernel
theorem dX12_town_90 : decode cX12_town 90 = .ok (.putfield 221, 3) := by decide +kernel
theorem dX12_town_93 : decode cX12_town 93 = .ok (.goto (-40), 3) := by decide +kernel
theorem dX12_town_96 : decode cX12_town 96 = .ok (.iconst 0, 1) := by decide +kernel
theorem dX12_town_97 : decode cX12_town 97 = .ok (.istore_n 1, 1) := by decide +kernel
theorem dX12_town_98 : decode cX12_town 98 = .ok (.iload_n 1, 1) := by decide +kernel
theorem dX12_town_99 : decode cX12_town 99 = .ok (.sipush 2187, 3) := by decide +kernel
theorem dX12_town_102 : decode cX12_town 102 = .ok (.if_icmp .ge 32, 3) := by decide +kernel
theorem dX12_town_105 : decode cX12_town 105 = .ok (.aload_n 0, 1) := by decide +kernel
theorem dX12_town_106 : decode cX12_town 106 = .ok (.getfield 33, 3) := by decide +kernel
theorem dX12_town_109 : decode cX12_town 109 = .ok (.iload_n 1, 1) := by decide +kernel
theorem dX12_town_110 : decode cX12_town 110 = .ok (.iload_n 1, 1) := by decide +kernel
theorem dX12_town_111 : decode cX12_town 111 = .ok (.sipush 146, 3) := by decide +kernel
theorem dX12_town_114 : decode cX12_town 114 = .ok (.if_icmp .ge 12, 3) := by decide +kernel
theorem dX12_town_117 : decode cX12_town 117 = .ok (.aload_n 0, 1) := by decide +kernel
theorem dX12_town_118 : decode cX12_town 118 = .ok (.getfield 37, 3) := by decide +kernel
theorem dX12_town_121 : decode cX12_town 121 = .ok (.iload_n 1, 1) := by decide +kernel
theorem dX12_town_122 : decode cX12_town 122 = .ok (.iaload, 1) := by decide +kernel
theorem dX12_town_123 : decode cX12_town 123 = .ok (.goto 4, 3) := by decide +kernel
theorem dX12_town_126 : decode cX12_town 126 = .ok (.iconst 0, 1) := by decide +kernel
theorem dX12_town_127 : decode cX12_town 127 = .ok (.iastore, 1) := by decide +kernel
theorem dX12_town_128 : decode cX12_town 128 = .ok (.iinc 1 1, 3) := by decide +kernel
theorem dX12_town_131 : decode cX12_town 131 = .ok (.goto (-33), 3) := by decide +kernel
theorem dX12_town_134 : decode cX12_town 134 = .ok (.iconst 0, 1) := by decide +kernel
theorem dX12_town_135 : decode cX12_town 135 = .ok (.istore_n 1, 1) := by decide +kernel
theorem dX12_town_136 : decode cX12_town 136 = .ok (.iload_n 1, 1) := by decide +kernel
theorem dX12_town_137 : decode cX12_town 137 = .ok (.bipush 18, 2) := by decide +kernel
theorem dX12_town_139 : decode cX12_town 139 = .ok (.if_icmp .ge 24, 3) := by decide +kernel
theorem dX12_town_142 : decode cX12_town 142 = .ok (.aload_n 0, 1) := by decide +kernel
theorem dX12_town_143 : decode cX12_town 143 = .ok (.getfield 43, 3) := by decide +kernel
theorem dX12_town_146 : decode cX12_town 146 = .ok (.iload_n 1, 1) := by decide +kernel
theorem dX12_town_147 : decode cX12_town 147 = .ok (.aload_n 0, 1) := by decide +kernel
theorem dX12_town_148 : decode cX12_town 148 = .ok (.getfield 43, 3) := by decide +kernel
theorem dX12_town_151 : decode cX12_town 151 = .ok (.bipush 18, 2) := by decide +kernel
theorem dX12_town_153 : decode cX12_town 153 = .ok (.iload_n 1, 1) := by decide +kernel
theorem dX12_town_154 : decode cX12_town 154 = .ok (.iadd, 1) := by decide +kernel
theorem dX12_town_155 : decode cX12_town 155 = .ok (.laload, 1) := by decide +kernel
theorem dX12_town_156 : decode cX12_town 156 = .ok (.lastore, 1) := by decide +kernel
theorem dX12_town_157 : decode cX12_town 157 = .ok (.iinc 1 1, 3) := by decide +kernel
theorem dX12_town_160 : decode cX12_town 160 = .ok (.goto (-24), 3) := by decide +kernel
theorem dX12_town_163 : decode cX12_town 163 = .ok (.iconst 0, 1) := by decide +kernel
theorem dX12_town_164 : decode cX12_town 164 = .ok (.istore_n 1, 1) := by decide +kernel
theorem dX12_town_165 : decode cX12_town 165 = .ok (.iload_n 1, 1) := by decide +kernel
theorem dX12_town_166 : decode cX12_town 166 = .ok (.bipush 9, 2) := by decide +kernel
theorem dX12_town_168 : decode cX12_town 168 = .ok (.if_icmp .ge 66, 3) := by decide +kernel
theorem dX12_town_171 : decode cX12_town 171 = .ok (.aload_n 0, 1) := by decide +kernel
theorem dX12_town_172 : decode cX12_town 172 = .ok (.getfield 33, 3) := by decide +kernel
theorem dX12_town_175 : decode cX12_town 175 = .ok (.sipush 161, 3) := by decide +kernel
theorem dX12_town_178 : decode cX12_town 178 = .ok (.iload_n 1, 1) := by decide +kernel
theorem dX12_town_179 : decode cX12_town 179 = .ok (.iadd, 1) := by decide +kernel
theorem dX12_town_180 : decode cX12_town 180 = .ok (.aload_n 0, 1) := by decide +kernel
theorem dX12_town_181 : decode cX12_town 181 = .ok (.getfield 33, 3) := by decide +kernel
theorem dX12_town_184 : decode cX12_town 184 = .ok (.bipush 38, 2) := by decide +kernel
theorem dX12_town_186 : decode cX12_town 186 = .ok (.iload_n 1, 1) := by decide +kernel
theorem dX12_town_187 : decode cX12_town 187 = .ok (.iadd, 1) := by decide +kernel
theorem dX12_town_188 : decode cX12_town 188 = .ok (.iaload, 1) := by decide +kernel
theorem dX12_town_189 : decode cX12_town 189 = .ok (.iastore, 1) := by decide +kernel
theorem dX12_town_190 : decode cX12_town 190 = .ok (.aload_n 0, 1) := by decide +kernel
theorem dX12_town_191 : decode cX12_town 191 = .ok (.getfield 33, 3) := by decide +kernel
theorem dX12_town_194 : decode cX12_town 194 = .ok (.sipush 170, 3) := by decide +kernel
theorem dX12_town_197 : decode cX12_town 197 = .ok (.iload_n 1, 1) := by decide +kernel
theorem dX12_town_198 : decode cX12_town 198 = .ok (.iadd, 1) := by decide +kernel
theorem dX12_town_199 : decode cX12_town 199 = .ok (.aload_n 0, 1) := by decide +kernel
theorem dX12_town_200 : decode cX12_town 200 = .ok (.getfield 33, 3) := by decide +kernel
theorem dX12_town_203 : decode cX12_town 203 = .ok (.bipush 29, 2) := by decide +kernel
theorem dX12_town_205 : decode cX12_town 205 = .ok (.iload_n 1, 1) := by decide +kernel
theorem dX12_town_206 : decode cX12_town 206 = .ok (.iadd, 1) := by decide +kernel
theorem dX12_town_207 : decode cX12_town 207 = .ok (.iaload, 1) := by decide +kernel
theorem dX12_town_208 : decode cX12_town 208 = .ok (.iastore, 1) := by decide +kernel
theorem dX12_town_209 : decode cX12_town 209 = .ok (.aload_n 0, 1) := by decide +kernel
theorem dX12_town_210 : decode cX12_town 210 = .ok (.getfield 33, 3) := by decide +kernel
theorem dX12_town_213 : decode cX12_town 213 = .ok (.sipush 188, 3) := by decide +kernel
theorem dX12_town_216 : decode cX12_town 216 = .ok (.iload_n 1, 1) := by decide +kernel
theorem dX12_town_217 : decode cX12_town 217 = .ok (.iadd, 1) := by decide +kernel
theorem dX12_town_218 : decode cX12_town 218 = .ok (.aload_n 0, 1) := by decide +kernel
theorem dX12_town_219 : decode cX12_town 219 = .ok (.getfield 33, 3) := by decide +kernel
theorem dX12_town_222 : decode cX12_town 222 = .ok (.bipush 11, 2) := by decide +kernel
theorem dX12_town_224 : decode cX12_town 224 = .ok (.iload_n 1, 1) := by decide +kernel
theorem dX12_town_225 : decode cX12_town 225 = .ok (.iadd, 1) := by decide +kernel
theorem dX12_town_226 : decode cX12_town 226 = .ok (.iaload, 1) := by decide +kernel
theorem dX12_town_227 : decode cX12_town 227 = .ok (.iastore, 1) := by decide +kernel
theorem dX12_town_228 : decode cX12_town 228 = .ok (.iinc 1 1, 3) := by decide +kernel
theorem dX12_town_231 : decode cX12_town 231 = .ok (.goto (-66), 3) := by decide +kernel
theorem dX12_town_234 : decode cX12_town 234 = .ok (.iconst 0, 1) := by decide +kernel
theorem dX12_town_235 : decode cX12_town 235 = .ok (.istore_n 1, 1) := by decide +kernel
theorem dX12_town_236 : decode cX12_town 236 = .ok (.iload_n 1, 1) := by decide +kernel
theorem dX12_town_237 : decode cX12_town 237 = .ok (.aload_n 0, 1) := by decide +kernel
theorem dX12_town_238 : decode cX12_town 238 = .ok (.getfield 33, 3) := by decide +kernel
theorem dX12_town_241 : decode cX12_town 241 = .ok (.iconst 1, 1) := by decide +kernel
theorem dX12_town_242 : decode cX12_town 242 = .ok (.iaload, 1) := by decide +kernel
theorem dX12_town_243 : decode cX12_town 243 = .ok (.if_icmp .ge 27, 3) := by decide +kernel
theorem dX12_town_246 : decode cX12_town 246 = .ok (.aload_n 0, 1) := by decide +kernel
theorem dX12_town_247 : decode cX12_town 247 = .ok (.getfield 33, 3) := by decide +kernel
theorem dX12_town_250 : decode cX12_town 250 = .ok (.sipush 161, 3) := by decide +kernel
theorem dX12_town_253 : decode cX12_town 253 = .ok (.iload_n 1, 1) := by decide +kernel
theorem dX12_town_254 : decode cX12_town 254 = .ok (.iadd, 1) := by decide +kernel
theorem dX12_town_255 : decode cX12_town 255 = .ok (.iaload, 1) := by decide +kernel
theorem dX12_town_256 : decode cX12_town 256 = .ok (.ifCond .ne 8, 3) := by decide +kernel
theorem dX12_town_259 : decode cX12_town 259 = .ok (.aload_n 0, 1) := by decide +kernel
theorem dX12_town_260 : decode cX12_town 260 = .ok (.iload_n 1, 1) := by decide +kernel
theorem dX12_town_261 : decode cX12_town 261 = .ok (.invokevirtual 230, 3) := by decide +kernel
theorem dX12_town_264 : decode cX12_town 264 = .ok (.iinc 1 1, 3) := by decide +kernel
theorem dX12_town_267 : decode cX12_town 267 = .ok (.goto (-31), 3) := by decide +kernel
theorem dX12_town_270 : decode cX12_town 270 = .ok (.aload_n 0, 1) := by decide +kernel
theorem dX12_town_271 : decode cX12_town 271 = .ok (.iconst 0, 1) := by decide +kernel
theorem dX12_town_272 : decode cX12_town 272 = .ok (.putfield 233, 3) := by decide +kernel
theorem dX12_town_275 : decode cX12_town 275 = .ok (.aload_n 0, 1) := by decide +kernel
theorem dX12_town_276 : decode cX12_town 276 = .ok (.getfield 221, 3) := by decide +kernel
theorem dX12_town_279 : decode cX12_town 279 = .ok (.ireturn, 1) := by decide +kernel
theorem dX12_tries_0 : decode cX12_tries 0 = .ok (.iconst 0, 1) := by decide +kernel
theorem dX12_tries_1 : decode cX12_tries 1 = .ok (.istore_n 1, 1) := by decide +kernel
theorem dX12_tries_2 : decode cX12_tries 2 = .ok (.iload_n 1, 1) := by decide +kernel
theorem dX12_tries_3 : decode cX12_tries 3 = .ok (.sipush 1860, 3) := by decide +kernel
theorem dX12_tries_6 : decode cX12_tries 6 = .ok (.if_icmp .ge 25, 3) := by decide +kernel
theorem dX12_tries_9 : decode cX12_tries 9 = .ok (.aload_n 0, 1) := by decide +kernel
theorem dX12_tries_10 : decode cX12_tries 10 = .ok (.getfield 53, 3) := by decide +kernel
theorem dX12_tries_13 : decode cX12_tries 13 = .ok (.iload_n 1, 1) := by decide +kernel
theorem dX12_tries_14 : decode cX12_tries 14 = .ok (.aload_n 0, 1) := by decide +kernel
theorem dX12_tries_15 : decode cX12_tries 15 = .ok (.getfield 33, 3) := by decide +kernel
theorem dX12_tries_18 : decode cX12_tries 18 = .ok (.sipush 146, 3) := by decide +kernel
theorem dX12_tries_21 : decode cX12_tries 21 = .ok (.iload_n 1, 1) := by decide +kernel
theorem dX12_tries_22 : decode cX12_tries 22 = .ok (.iadd, 1) := by decide +kernel
theorem dX12_tries_23 : decode cX12_tries 23 = .ok (.iaload, 1) := by decide +kernel
theorem dX12_tries_24 : decode cX12_tries 24 = .ok (.iastore, 1) := by decide +kernel
theorem dX12_tries_25 : decode cX12_tries 25 = .ok (.iinc 1 1, 3) := by decide +kernel
theorem dX12_tries_28 : decode cX12_tries 28 = .ok (.goto (-26), 3) := by decide +kernel
theorem dX12_tries_31 : decode cX12_tries 31 = .ok (.return_, 1) := by decide +kernel
theorem dX12_undo_0 : decode cX12_undo 0 = .ok (.aload_n 0, 1) := by decide +kernel
theorem dX12_undo_1 : decode cX12_undo 1 = .ok (.iconst 0, 1) := by decide +kernel
theorem dX12_undo_2 : decode cX12_undo 2 = .ok (.putfield 1, 3) := by decide +kernel
theorem dX12_undo_5 : decode cX12_undo 5 = .ok (.aload_n 0, 1) := by decide +kernel
theorem dX12_undo_6 : decode cX12_undo 6 = .ok (.getfield 233, 3) := by decide +kernel
theorem dX12_undo_9 : decode cX12_undo 9 = .ok (.ifCond .ne 5, 3) := by decide +kernel
theorem dX12_undo_12 : decode cX12_undo 12 = .ok (.iconst (-1), 1) := by decide +kernel
theorem dX12_undo_13 : decode cX12_undo 13 = .ok (.ireturn, 1) := by decide +kernel
theorem dX12_undo_14 : decode cX12_undo 14 = .ok (.aload_n 0, 1) := by decide +kernel
theorem dX12_undo_15 : decode cX12_undo 15 = .ok (.dup, 1) := by decide +kernel
theorem dX12_undo_16 : decode cX12_undo 16 = .ok (.getfield 233, 3) := by decide +kernel
theorem dX12_undo_19 : decode cX12_undo 19 = .ok (.iconst 1, 1) := by decide +kernel
theorem dX12_undo_20 : decode cX12_undo 20 = .ok (.isub, 1) := by decide +kernel
theorem dX12_undo_21 : decode cX12_undo 21 = .ok (.putfield 233, 3) := by decide +kernel
theorem dX12_undo_24 : decode cX12_undo 24 = .ok (.iconst 0, 1) := by decide +kernel
theorem dX12_undo_25 : decode cX12_undo 25 = .ok (.istore_n 1, 1) := by decide +kernel
theorem dX12_undo_26 : decode cX12_undo 26 = .ok (.iload_n 1, 1) := by decide +kernel
theorem dX12_undo_27 : decode cX12_undo 27 = .ok (.sipush 1860, 3) := by decide +kernel
theorem dX12_undo_30 : decode cX12_undo 30 = .ok (.if_icmp .ge 34, 3) := by decide +kernel
theorem dX12_undo_33 : decode cX12_undo 33 = .ok (.aload_n 0, 1) := by decide +kernel
theorem dX12_undo_34 : decode cX12_undo 34 = .ok (.getfield 33, 3) := by decide +kernel
theorem dX12_undo_37 : decode cX12_undo 37 = .ok (.sipush 146, 3) := by decide +kernel
theorem dX12_undo_40 : decode cX12_undo 40 = .ok (.iload_n 1, 1) := by decide +kernel
theorem dX12_undo_41 : decode cX12_undo 41 = .ok (.iadd, 1) := by decide +kernel
theorem dX12_undo_42 : decode cX12_undo 42 = .ok (.aload_n 0, 1) := by decide +kernel
theorem dX12_undo_43 : decode cX12_undo 43 = .ok (.getfield 50, 3) := by decide +kernel
theorem dX12_undo_46 : decode cX12_undo 46 = .ok (.sipush 1860, 3) := by decide +kernel
theorem dX12_undo_49 : decode cX12_undo 49 = .ok (.aload_n 0, 1) := by decide +kernel
theorem dX12_undo_50 : decode cX12_undo 50 = .ok (.getfield 233, 3) := by decide +kernel
theorem dX12_undo_53 : decode cX12_undo 53 = .ok (.imul, 1) := by decide +kernel
theorem dX12_undo_54 : decode cX12_undo 54 = .ok (.iload_n 1, 1) := by decide +kernel
theorem dX12_undo_55 : decode cX12_undo 55 = .ok (.iadd, 1) := by decide +kernel
theorem dX12_undo_56 : decode cX12_undo 56 = .ok (.iaload, 1) := by decide +kernel
theorem dX12_undo_57 : decode cX12_undo 57 = .ok (.iastore, 1) := by decide +kernel
theorem dX12_undo_58 : decode cX12_undo 58 = .ok (.iinc 1 1, 3) := by decide +kernel
theorem dX12_undo_61 : decode cX12_undo 61 = .ok (.goto (-35), 3) := by decide +kernel
theorem dX12_undo_64 : decode cX12_undo 64 = .ok (.aload_n 0, 1) := by decide +kernel
theorem dX12_undo_65 : decode cX12_undo 65 = .ok (.getfield 233, 3) := by decide +kernel
theorem dX12_undo_68 : decode cX12_undo 68 = .ok (.ireturn, 1) := by decide +kernel
theorem dX12_votes_0 : decode cX12_votes 0 = .ok (.aload_n 0, 1) := by decide +kernel
theorem dX12_votes_1 : decode cX12_votes 1 = .ok (.iconst 0, 1) := by decide +kernel
theorem dX12_votes_2 : decode cX12_votes 2 = .ok (.putfield 1, 3) := by decide +kernel
theorem dX12_votes_5 : decode cX12_votes 5 = .ok (.iload_n 1, 1) := by decide +kernel
theorem dX12_votes_6 : decode cX12_votes 6 = .ok (.ifCond .lt 15, 3) := by decide +kernel
theorem dX12_votes_9 : decode cX12_votes 9 = .ok (.iload_n 1, 1) := by decide +kernel
theorem dX12_votes_10 : decode cX12_votes 10 = .ok (.iconst 1, 1) := by decide +kernel
theorem dX12_votes_11 : decode cX12_votes 11 = .ok (.aload_n 0, 1) := by decide +kernel
theorem dX12_votes_12 : decode cX12_votes 12 = .ok (.getfield 33, 3) := by decide +kernel
theorem dX12_votes_15 : decode cX12_votes 15 = .ok (.iconst 1, 1) := by decide +kernel
theorem dX12_votes_16 : decode cX12_votes 16 = .ok (.iaload, 1) := by decide +kernel
theorem dX12_votes_17 : decode cX12_votes 17 = .ok (.ishl, 1) := by decide +kernel
theorem dX12_votes_18 : decode cX12_votes 18 = .ok (.if_icmp .lt 5, 3) := by decide +kernel
theorem dX12_votes_21 : decode cX12_votes 21 = .ok (.iconst (-1), 1) := by decide +kernel
theorem dX12_votes_22 : decode cX12_votes 22 = .ok (.ireturn, 1) := by decide +kernel
theorem dX12_votes_23 : decode cX12_votes 23 = .ok (.aload_n 0, 1) := by decide +kernel
theorem dX12_votes_24 : decode cX12_votes 24 = .ok (.iload_n 1, 1) := by decide +kernel
theorem dX12_votes_25 : decode cX12_votes 25 = .ok (.invokevirtual 374, 3) := by decide +kernel
theorem dX12_votes_28 : decode cX12_votes 28 = .ok (.ifCond .eq 7, 3) := by decide +kernel
theorem dX12_votes_31 : decode cX12_votes 31 = .ok (.iconst 1, 1) := by decide +kernel
theorem dX12_votes_32 : decode cX12_votes 32 = .ok (.goto 4, 3) := by decide +kernel
theorem dX12_votes_35 : decode cX12_votes 35 = .ok (.iconst 0, 1) := by decide +kernel
theorem dX12_votes_36 : decode cX12_votes 36 = .ok (.ireturn, 1) := by decide +kernel
theorem dX12_waitSet_0 : decode cX12_waitSet 0 = .ok (.iconst 0, 1) := by decide +kernel
theorem dX12_waitSet_1 : decode cX12_waitSet 1 = .ok (.istore_n 1, 1) := by decide +kernel
theorem dX12_waitSet_2 : decode cX12_waitSet 2 = .ok (.iconst 0, 1) := by decide +kernel
theorem dX12_waitSet_3 : decode cX12_waitSet 3 = .ok (.istore_n 2, 1) := by decide +kernel
theorem dX12_waitSet_4 : decode cX12_waitSet 4 = .ok (.iload_n 2, 1) := by decide +kernel
theorem dX12_waitSet_5 : decode cX12_waitSet 5 = .ok (.aload_n 0, 1) := by decide +kernel
theorem dX12_waitSet_6 : decode cX12_waitSet 6 = .ok (.getfield 33, 3) := by decide +kernel
theorem dX12_waitSet_9 : decode cX12_waitSet 9 = .ok (.sipush 151, 3) := by decide +kernel
theorem dX12_waitSet_12 : decode cX12_waitSet 12 = .ok (.iaload, 1) := by decide +kernel
theorem dX12_waitSet_13 : decode cX12_waitSet 13 = .ok (.if_icmp .ge 24, 3) := by decide +kernel
theorem dX12_waitSet_16 : decode cX12_waitSet 16 = .ok (.iload_n 1, 1) := by decide +kernel
theorem dX12_waitSet_17 : decode cX12_waitSet 17 = .ok (.iconst 1, 1) := by decide +kernel
theorem dX12_waitSet_18 : decode cX12_waitSet 18 = .ok (.aload_n 0, 1) := by decide +kernel
theorem dX12_waitSet_19 : decode cX12_waitSet 19 = .ok (.getfield 33, 3) := by decide +kernel
theorem dX12_waitSet_22 : decode cX12_waitSet 22 = .ok (.sipush 152, 3) := by decide +kernel
theorem dX12_waitSet_25 : decode cX12_waitSet 25 = .ok (.iload_n 2, 1) := by decide +kernel
theorem dX12_waitSet_26 : decode cX12_waitSet 26 = .ok (.iadd, 1) := by decide +kernel
theorem dX12_waitSet_27 : decode cX12_waitSet 27 = .ok (.iaload, 1) := by decide +kernel
theorem dX12_waitSet_28 : decode cX12_waitSet 28 = .ok (.ishl, 1) := by decide +kernel
theorem dX12_waitSet_29 : decode cX12_waitSet 29 = .ok (.ior, 1) := by decide +kernel
theorem dX12_waitSet_30 : decode cX12_waitSet 30 = .ok (.istore_n 1, 1) := by decide +kernel
theorem dX12_waitSet_31 : decode cX12_waitSet 31 = .ok (.iinc 2 1, 3) := by decide +kernel
theorem dX12_waitSet_34 : decode cX12_waitSet 34 = .ok (.goto (-30), 3) := by decide +kernel
theorem dX12_waitSet_37 : decode cX12_waitSet 37 = .ok (.iload_n 1, 1) := by decide +kernel
theorem dX12_waitSet_38 : decode cX12_waitSet 38 = .ok (.ireturn, 1) := by decide +kernel
theorem dX12_waits_0 : decode cX12_waits 0 = .ok (.aload_n 0, 1) := by decide +kernel
theorem dX12_waits_1 : decode cX12_waits 1 = .ok (.getfield 33, 3) := by decide +kernel
theorem dX12_waits_4 : decode cX12_waits 4 = .ok (.sipush 152, 3) := by decide +kernel
theorem dX12_waits_7 : decode cX12_waits 7 = .ok (.aload_n 0, 1) := by decide +kernel
theorem dX12_waits_8 : decode cX12_waits 8 = .ok (.getfield 33, 3) := by decide +kernel
