theorem dX5_isMeasured_67 : decode cX5_isMeasured 67 = .ok (.iconst 0, 1) := by decide +kernel
theorem dX5_isMeasured_68 : decode cX5_isMeasured 68 = .ok (.goto 19, 3) := by decide +kernel
theorem dX5_isMeasured_71 : decode cX5_isMeasured 71 = .ok (.iload 4, 2) := by decide +kernel
theorem dX5_isMeasured_73 : decode cX5_isMeasured 73 = .ok (.aload_n 0, 1) := by decide +kernel
theorem dX5_isMeasured_74 : decode cX5_isMeasured 74 = .ok (.getfield 18, 3) := by decide +kernel
theorem dX5_isMeasured_77 : decode cX5_isMeasured 77 = .ok (.iload_n 1, 1) := by decide +kernel
theorem dX5_isMeasured_78 : decode cX5_isMeasured 78 = .ok (.iaload, 1) := by decide +kernel
theorem dX5_isMeasured_79 : decode cX5_isMeasured 79 = .ok (.if_icmp .le 7, 3) := by decide +kernel
theorem dX5_isMeasured_82 : decode cX5_isMeasured 82 = .ok (.iconst 1, 1) := by decide +kernel
theorem dX5_isMeasured_83 : decode cX5_isMeasured 83 = .ok (.goto 4, 3) := by decide +kernel
theorem dX5_isMeasured_86 : decode cX5_isMeasured 86 = .ok (.iconst 0, 1) := by decide +kernel
theorem dX5_isMeasured_87 : decode cX5_isMeasured 87 = .ok (.ireturn, 1) := by decide +kernel
theorem dX5_isSo_0 : decode cX5_isSo 0 = .ok (.aload_n 0, 1) := by decide +kernel
theorem dX5_isSo_1 : decode cX5_isSo 1 = .ok (.getfield 11, 3) := by decide +kernel
theorem dX5_isSo_4 : decode cX5_isSo 4 = .ok (.iload_n 1, 1) := by decide +kernel
theorem dX5_isSo_5 : decode cX5_isSo 5 = .ok (.iaload, 1) := by decide +kernel
theorem dX5_isSo_6 : decode cX5_isSo 6 = .ok (.tableswitch 69 3 6 #[30, 36, 42, 63], 30) := by decide +kernel
theorem dX5_isSo_36 : decode cX5_isSo 36 = .ok (.aload_n 2, 1) := by decide +kernel
theorem dX5_isSo_37 : decode cX5_isSo 37 = .ok (.iload_n 3, 1) := by decide +kernel
theorem dX5_isSo_38 : decode cX5_isSo 38 = .ok (.invokevirtual 153, 3) := by decide +kernel
theorem dX5_isSo_41 : decode cX5_isSo 41 = .ok (.ireturn, 1) := by decide +kernel
theorem dX5_isSo_42 : decode cX5_isSo 42 = .ok (.aload_n 2, 1) := by decide +kernel
theorem dX5_isSo_43 : decode cX5_isSo 43 = .ok (.iload_n 3, 1) := by decide +kernel
theorem dX5_isSo_44 : decode cX5_isSo 44 = .ok (.invokevirtual 156, 3) := by decide +kernel
theorem dX5_isSo_47 : decode cX5_isSo 47 = .ok (.ireturn, 1) := by decide +kernel
theorem dX5_isSo_48 : decode cX5_isSo 48 = .ok (.aload_n 2, 1) := by decide +kernel
theorem dX5_isSo_49 : decode cX5_isSo 49 = .ok (.getfield 159, 3) := by decide +kernel
theorem dX5_isSo_52 : decode cX5_isSo 52 = .ok (.iload_n 3, 1) := by decide +kernel
theorem dX5_isSo_53 : decode cX5_isSo 53 = .ok (.iaload, 1) := by decide +kernel
theorem dX5_isSo_54 : decode cX5_isSo 54 = .ok (.aload_n 0, 1) := by decide +kernel
theorem dX5_isSo_55 : decode cX5_isSo 55 = .ok (.getfield 18, 3) := by decide +kernel
theorem dX5_isSo_58 : decode cX5_isSo 58 = .ok (.iload_n 1, 1) := by decide +kernel
theorem dX5_isSo_59 : decode cX5_isSo 59 = .ok (.iaload, 1) := by decide +kernel
theorem dX5_isSo_60 : decode cX5_isSo 60 = .ok (.if_icmp .ne 7, 3) := by decide +kernel
theorem dX5_isSo_63 : decode cX5_isSo 63 = .ok (.iconst 1, 1) := by decide +kernel
theorem dX5_isSo_64 : decode cX5_isSo 64 = .ok (.goto 4, 3) := by decide +kernel
theorem dX5_isSo_67 : decode cX5_isSo 67 = .ok (.iconst 0, 1) := by decide +kernel
theorem dX5_isSo_68 : decode cX5_isSo 68 = .ok (.ireturn, 1) := by decide +kernel
theorem dX5_isSo_69 : decode cX5_isSo 69 = .ok (.aload_n 2, 1) := by decide +kernel
theorem dX5_isSo_70 : decode cX5_isSo 70 = .ok (.iload_n 3, 1) := by decide +kernel
theorem dX5_isSo_71 : decode cX5_isSo 71 = .ok (.invokevirtual 162, 3) := by decide +kernel
theorem dX5_isSo_74 : decode cX5_isSo 74 = .ok (.ireturn, 1) := by decide +kernel
theorem dX5_isSo_75 : decode cX5_isSo 75 = .ok (.aload_n 2, 1) := by decide +kernel
theorem dX5_isSo_76 : decode cX5_isSo 76 = .ok (.getfield 159, 3) := by decide +kernel
theorem dX5_isSo_79 : decode cX5_isSo 79 = .ok (.iload_n 3, 1) := by decide +kernel
theorem dX5_isSo_80 : decode cX5_isSo 80 = .ok (.iaload, 1) := by decide +kernel
theorem dX5_isSo_81 : decode cX5_isSo 81 = .ok (.iconst (-1), 1) := by decide +kernel
theorem dX5_isSo_82 : decode cX5_isSo 82 = .ok (.if_icmp .eq 25, 3) := by decide +kernel
theorem dX5_isSo_85 : decode cX5_isSo 85 = .ok (.aload_n 2, 1) := by decide +kernel
theorem dX5_isSo_86 : decode cX5_isSo 86 = .ok (.getfield 159, 3) := by decide +kernel
theorem dX5_isSo_89 : decode cX5_isSo 89 = .ok (.iload_n 3, 1) := by decide +kernel
theorem dX5_isSo_90 : decode cX5_isSo 90 = .ok (.iaload, 1) := by decide +kernel
theorem dX5_isSo_91 : decode cX5_isSo 91 = .ok (.aload_n 2, 1) := by decide +kernel
theorem dX5_isSo_92 : decode cX5_isSo 92 = .ok (.getfield 136, 3) := by decide +kernel
theorem dX5_isSo_95 : decode cX5_isSo 95 = .ok (.getfield 165, 3) := by decide +kernel
theorem dX5_isSo_98 : decode cX5_isSo 98 = .ok (.iload_n 3, 1) := by decide +kernel
theorem dX5_isSo_99 : decode cX5_isSo 99 = .ok (.iaload, 1) := by decide +kernel
theorem dX5_isSo_100 : decode cX5_isSo 100 = .ok (.if_icmp .ne 7, 3) := by decide +kernel
theorem dX5_isSo_103 : decode cX5_isSo 103 = .ok (.iconst 1, 1) := by decide +kernel
theorem dX5_isSo_104 : decode cX5_isSo 104 = .ok (.goto 4, 3) := by decide +kernel
theorem dX5_isSo_107 : decode cX5_isSo 107 = .ok (.iconst 0, 1) := by decide +kernel
theorem dX5_isSo_108 : decode cX5_isSo 108 = .ok (.ireturn, 1) := by decide +kernel
theorem dX5_leafAhead_0 : decode cX5_leafAhead 0 = .ok (.aload_n 0, 1) := by decide +kernel
theorem dX5_leafAhead_1 : decode cX5_leafAhead 1 = .ok (.getfield 24, 3) := by decide +kernel
theorem dX5_leafAhead_4 : decode cX5_leafAhead 4 = .ok (.ldc 96, 2) := by decide +kernel
theorem dX5_leafAhead_6 : decode cX5_leafAhead 6 = .ok (.invokevirtual 64, 3) := by decide +kernel
theorem dX5_leafAhead_9 : decode cX5_leafAhead 9 = .ok (.ifCond .eq 5, 3) := by decide +kernel
theorem dX5_leafAhead_12 : decode cX5_leafAhead 12 = .ok (.iconst 3, 1) := by decide +kernel
theorem dX5_leafAhead_13 : decode cX5_leafAhead 13 = .ok (.ireturn, 1) := by decide +kernel
theorem dX5_leafAhead_14 : decode cX5_leafAhead 14 = .ok (.aload_n 0, 1) := by decide +kernel
theorem dX5_leafAhead_15 : decode cX5_leafAhead 15 = .ok (.getfield 24, 3) := by decide +kernel
theorem dX5_leafAhead_18 : decode cX5_leafAhead 18 = .ok (.ldc 98, 2) := by decide +kernel
theorem dX5_leafAhead_20 : decode cX5_leafAhead 20 = .ok (.invokevirtual 64, 3) := by decide +kernel
theorem dX5_leafAhead_23 : decode cX5_leafAhead 23 = .ok (.ifCond .eq 5, 3) := by decide +kernel
theorem dX5_leafAhead_26 : decode cX5_leafAhead 26 = .ok (.iconst 4, 1) := by decide +kernel
theorem dX5_leafAhead_27 : decode cX5_leafAhead 27 = .ok (.ireturn, 1) := by decide +kernel
theorem dX5_leafAhead_28 : decode cX5_leafAhead 28 = .ok (.aload_n 0, 1) := by decide +kernel
theorem dX5_leafAhead_29 : decode cX5_leafAhead 29 = .ok (.getfield 24, 3) := by decide +kernel
theorem dX5_leafAhead_32 : decode cX5_leafAhead 32 = .ok (.ldc 100, 2) := by decide +kernel
theorem dX5_leafAhead_34 : decode cX5_leafAhead 34 = .ok (.invokevirtual 64, 3) := by decide +kernel
theorem dX5_leafAhead_37 : decode cX5_leafAhead 37 = .ok (.ifCond .eq 5, 3) := by decide +kernel
theorem dX5_leafAhead_40 : decode cX5_leafAhead 40 = .ok (.iconst 5, 1) := by decide +kernel
theorem dX5_leafAhead_41 : decode cX5_leafAhead 41 = .ok (.ireturn, 1) := by decide +kernel
theorem dX5_leafAhead_42 : decode cX5_leafAhead 42 = .ok (.aload_n 0, 1) := by decide +kernel
theorem dX5_leafAhead_43 : decode cX5_leafAhead 43 = .ok (.getfield 24, 3) := by decide +kernel
theorem dX5_leafAhead_46 : decode cX5_leafAhead 46 = .ok (.ldc 102, 2) := by decide +kernel
theorem dX5_leafAhead_48 : decode cX5_leafAhead 48 = .ok (.invokevirtual 64, 3) := by decide +kernel
theorem dX5_leafAhead_51 : decode cX5_leafAhead 51 = .ok (.ifCond .eq 6, 3) := by decide +kernel
theorem dX5_leafAhead_54 : decode cX5_leafAhead 54 = .ok (.bipush 6, 2) := by decide +kernel
theorem dX5_leafAhead_56 : decode cX5_leafAhead 56 = .ok (.ireturn, 1) := by decide +kernel
theorem dX5_leafAhead_57 : decode cX5_leafAhead 57 = .ok (.aload_n 0, 1) := by decide +kernel
theorem dX5_leafAhead_58 : decode cX5_leafAhead 58 = .ok (.getfield 24, 3) := by decide +kernel
theorem dX5_leafAhead_61 : decode cX5_leafAhead 61 = .ok (.ldc 104, 2) := by decide +kernel
theorem dX5_leafAhead_63 : decode cX5_leafAhead 63 = .ok (.invokevirtual 64, 3) := by decide +kernel
theorem dX5_leafAhead_66 : decode cX5_leafAhead 66 = .ok (.ifCond .eq 6, 3) := by decide +kernel
theorem dX5_leafAhead_69 : decode cX5_leafAhead 69 = .ok (.bipush 7, 2) := by decide +kernel
theorem dX5_leafAhead_71 : decode cX5_leafAhead 71 = .ok (.ireturn, 1) := by decide +kernel
theorem dX5_leafAhead_72 : decode cX5_leafAhead 72 = .ok (.aload_n 0, 1) := by decide +kernel
theorem dX5_leafAhead_73 : decode cX5_leafAhead 73 = .ok (.getfield 24, 3) := by decide +kernel
theorem dX5_leafAhead_76 : decode cX5_leafAhead 76 = .ok (.ldc 106, 2) := by decide +kernel
theorem dX5_leafAhead_78 : decode cX5_leafAhead 78 = .ok (.invokevirtual 64, 3) := by decide +kernel
theorem dX5_leafAhead_81 : decode cX5_leafAhead 81 = .ok (.ifCond .eq 6, 3) := by decide +kernel
theorem dX5_leafAhead_84 : decode cX5_leafAhead 84 = .ok (.bipush 8, 2) := by decide +kernel
theorem dX5_leafAhead_86 : decode cX5_leafAhead 86 = .ok (.ireturn, 1) := by decide +kernel
theorem dX5_leafAhead_87 : decode cX5_leafAhead 87 = .ok (.aload_n 0, 1) := by decide +kernel
theorem dX5_leafAhead_88 : decode cX5_leafAhead 88 = .ok (.getfield 24, 3) := by decide +kernel
theorem dX5_leafAhead_91 : decode cX5_leafAhead 91 = .ok (.ldc 108, 2) := by decide +kernel
theorem dX5_leafAhead_93 : decode cX5_leafAhead 93 = .ok (.invokevirtual 64, 3) := by decide +kernel
theorem dX5_leafAhead_96 : decode cX5_leafAhead 96 = .ok (.ifCond .eq 6, 3) := by decide +kernel
theorem dX5_leafAhead_99 : decode cX5_leafAhead 99 = .ok (.bipush 9, 2) := by decide +kernel
theorem dX5_leafAhead_101 : decode cX5_leafAhead 101 = .ok (.ireturn, 1) := by decide +kernel
theorem dX5_leafAhead_102 : decode cX5_leafAhead 102 = .ok (.aload_n 0, 1) := by decide +kernel
theorem dX5_leafAhead_103 : decode cX5_leafAhead 103 = .ok (.getfield 24, 3) := by decide +kernel
theorem dX5_leafAhead_106 : decode cX5_leafAhead 106 = .ok (.ldc 110, 2) := by decide +kernel
theorem dX5_leafAhead_108 : decode cX5_leafAhead 108 = .ok (.invokevirtual 64, 3) := by decide +kernel
theorem dX5_leafAhead_111 : decode cX5_leafAhead 111 = .ok (.ifCond .eq 6, 3) := by decide +kernel
theorem dX5_leafAhead_114 : decode cX5_leafAhead 114 = .ok (.bipush 10, 2) := by decide +kernel
theorem dX5_leafAhead_116 : decode cX5_leafAhead 116 = .ok (.ireturn, 1) := by decide +kernel
theorem dX5_leafAhead_117 : decode cX5_leafAhead 117 = .ok (.aload_n 0, 1) := by decide +kernel
theorem dX5_leafAhead_118 : decode cX5_leafAhead 118 = .ok (.getfield 24, 3) := by decide +kernel
theorem dX5_leafAhead_121 : decode cX5_leafAhead 121 = .ok (.ldc 112, 2) := by decide +kernel
theorem dX5_leafAhead_123 : decode cX5_leafAhead 123 = .ok (.invokevirtual 64, 3) := by decide +kernel
theorem dX5_leafAhead_126 : decode cX5_leafAhead 126 = .ok (.ifCond .eq 8, 3) := by decide +kernel
theorem dX5_leafAhead_129 : decode cX5_leafAhead 129 = .ok (.bipush 11, 2) := by decide +kernel
theorem dX5_leafAhead_131 : decode cX5_leafAhead 131 = .ok (.goto 4, 3) := by decide +kernel
theorem dX5_leafAhead_134 : decode cX5_leafAhead 134 = .ok (.iconst (-1), 1) := by decide +kernel
theorem dX5_leafAhead_135 : decode cX5_leafAhead 135 = .ok (.ireturn, 1) := by decide +kernel
theorem dX5_measureOf_0 : decode cX5_measureOf 0 = .ok (.iload_n 0, 1) := by decide +kernel
theorem dX5_measureOf_1 : decode cX5_measureOf 1 = .ok (.tableswitch 47 8 10 #[27, 34, 40], 27) := by decide +kernel
theorem dX5_measureOf_28 : decode cX5_measureOf 28 = .ok (.aload_n 1, 1) := by decide +kernel
theorem dX5_measureOf_29 : decode cX5_measureOf 29 = .ok (.getfield 172, 3) := by decide +kernel
theorem dX5_measureOf_32 : decode cX5_measureOf 32 = .ok (.iload_n 2, 1) := by decide +kernel
theorem dX5_measureOf_33 : decode cX5_measureOf 33 = .ok (.iaload, 1) := by decide +kernel
theorem dX5_measureOf_34 : decode cX5_measureOf 34 = .ok (.ireturn, 1) := by decide +kernel
theorem dX5_measureOf_35 : decode cX5_measureOf 35 = .ok (.aload_n 1, 1) := by decide +kernel
theorem dX5_measureOf_36 : decode cX5_measureOf 36 = .ok (.iload_n 2, 1) := by decide +kernel
theorem dX5_measureOf_37 : decode cX5_measureOf 37 = .ok (.invokevirtual 174, 3) := by decide +kernel
theorem dX5_measureOf_40 : decode cX5_measureOf 40 = .ok (.ireturn, 1) := by decide +kernel
theorem dX5_measureOf_41 : decode cX5_measureOf 41 = .ok (.aload_n 1, 1) := by decide +kernel
theorem dX5_measureOf_42 : decode cX5_measureOf 42 = .ok (.getfield 178, 3) := by decide +kernel
theorem dX5_measureOf_45 : decode cX5_measureOf 45 = .ok (.iload_n 2, 1) := by decide +kernel
theorem dX5_measureOf_46 : decode cX5_measureOf 46 = .ok (.iaload, 1) := by decide +kernel
theorem dX5_measureOf_47 : decode cX5_measureOf 47 = .ok (.ireturn, 1) := by decide +kernel
theorem dX5_measureOf_48 : decode cX5_measureOf 48 = .ok (.iload_n 2, 1) := by decide +kernel
theorem dX5_measureOf_49 : decode cX5_measureOf 49 = .ok (.ireturn, 1) := by decide +kernel
theorem dX5_read_0 : decode cX5_read 0 = .ok (.aload_n 0, 1) := by decide +kernel
theorem dX5_read_1 : decode cX5_read 1 = .ok (.iconst 0, 1) := by decide +kernel
theorem dX5_read_2 : decode cX5_read 2 = .ok (.putfield 32, 3) := by decide +kernel
theorem dX5_read_5 : decode cX5_read 5 = .ok (.aload_n 0, 1) := by decide +kernel
theorem dX5_read_6 : decode cX5_read 6 = .ok (.iconst 0, 1) := by decide +kernel
theorem dX5_read_7 : decode cX5_read 7 = .ok (.putfield 36, 3) := by decide +kernel
theorem dX5_read_10 : decode cX5_read 10 = .ok (.aload_n 0, 1) := by decide +kernel
theorem dX5_read_11 : decode cX5_read 11 = .ok (.getfield 24, 3) := by decide +kernel
theorem dX5_read_14 : decode cX5_read 14 = .ok (.sipush 200, 3) := by decide +kernel
theorem dX5_read_17 : decode cX5_read 17 = .ok (.invokevirtual 43, 3) := by decide +kernel
theorem dX5_read_20 : decode cX5_read 20 = .ok (.aload_n 0, 1) := by decide +kernel
theorem dX5_read_21 : decode cX5_read 21 = .ok (.iconst 1, 1) := by decide +kernel
theorem dX5_read_22 : decode cX5_read 22 = .ok (.invokevirtual 49, 3) := by decide +kernel
theorem dX5_read_25 : decode cX5_read 25 = .ok (.ifCond .ne 5, 3) := by decide +kernel
theorem dX5_read_28 : decode cX5_read 28 = .ok (.iconst 0, 1) := by decide +kernel
theorem dX5_read_29 : decode cX5_read 29 = .ok (.ireturn, 1) := by decide +kernel
theorem dX5_read_30 : decode cX5_read 30 = .ok (.aload_n 0, 1) := by decide +kernel
theorem dX5_read_31 : decode cX5_read 31 = .ok (.getfield 24, 3) := by decide +kernel
theorem dX5_read_34 : decode cX5_read 34 = .ok (.getfield 53, 3) := by decide +kernel
theorem dX5_read_37 : decode cX5_read 37 = .ok (.ifCond .eq 14, 3) := by decide +kernel
theorem dX5_read_40 : decode cX5_read 40 = .ok (.aload_n 0, 1) := by decide +kernel
theorem dX5_read_41 : decode cX5_read 41 = .ok (.getfield 24, 3) := by decide +kernel
theorem dX5_read_44 : decode cX5_read 44 = .ok (.iconst 1, 1) := by decide +kernel
theorem dX5_read_45 : decode cX5_read 45 = .ok (.invokevirtual 56, 3) := by decide +kernel
theorem dX5_read_48 : decode cX5_read 48 = .ok (.ifCond .eq 7, 3) := by decide +kernel
theorem dX5_read_51 : decode cX5_read 51 = .ok (.iconst 1, 1) := by decide +kernel
theorem dX5_read_52 : decode cX5_read 52 = .ok (.goto 4, 3) := by decide +kernel
theorem dX5_read_55 : decode cX5_read 55 = .ok (.iconst 0, 1) := by decide +kernel
theorem dX5_read_56 : decode cX5_read 56 = .ok (.ireturn, 1) := by decide +kernel
theorem dX5_readAll_0 : decode cX5_readAll 0 = .ok (.aload_n 0, 1) := by decide +kernel
theorem dX5_readAll_1 : decode cX5_readAll 1 = .ok (.iload_n 1, 1) := by decide +kernel
theorem dX5_readAll_2 : decode cX5_readAll 2 = .ok (.invokevirtual 75, 3) := by decide +kernel
theorem dX5_readAll_5 : decode cX5_readAll 5 = .ok (.istore_n 2, 1) := by decide +kernel
theorem dX5_readAll_6 : decode cX5_readAll 6 = .ok (.iconst 0, 1) := by decide +kernel
theorem dX5_readAll_7 : decode cX5_readAll 7 = .ok (.istore_n 3, 1) := by decide +kernel
theorem dX5_readAll_8 : decode cX5_readAll 8 = .ok (.iload_n 3, 1) := by decide +kernel
theorem dX5_readAll_9 : decode cX5_readAll 9 = .ok (.bipush 20, 2) := by decide +kernel
theorem dX5_readAll_11 : decode cX5_readAll 11 = .ok (.if_icmp .ge 56, 3) := by decide +kernel
theorem dX5_readAll_14 : decode cX5_readAll 14 = .ok (.iload_n 2, 1) := by decide +kernel
theorem dX5_readAll_15 : decode cX5_readAll 15 = .ok (.ifCond .eq 52, 3) := by decide +kernel
theorem dX5_readAll_18 : decode cX5_readAll 18 = .ok (.aload_n 0, 1) := by decide +kernel
theorem dX5_readAll_19 : decode cX5_readAll 19 = .ok (.getfield 24, 3) := by decide +kernel
theorem dX5_readAll_22 : decode cX5_readAll 22 = .ok (.ldc 78, 2) := by decide +kernel
theorem dX5_readAll_24 : decode cX5_readAll 24 = .ok (.invokevirtual 64, 3) := by decide +kernel
theorem dX5_readAll_27 : decode cX5_readAll 27 = .ok (.ifCond .eq 40, 3) := by decide +kernel
theorem dX5_readAll_30 : decode cX5_readAll 30 = .ok (.aload_n 0, 1) := by decide +kernel
theorem dX5_readAll_31 : decode cX5_readAll 31 = .ok (.getfield 24, 3) := by decide +kernel
theorem dX5_readAll_34 : decode cX5_readAll 34 = .ok (.invokevirtual 68, 3) := by decide +kernel
theorem dX5_readAll_37 : decode cX5_readAll 37 = .ok (.aload_n 0, 1) := by decide +kernel
theorem dX5_readAll_38 : decode cX5_readAll 38 = .ok (.iload_n 1, 1) := by decide +kernel
theorem dX5_readAll_39 : decode cX5_readAll 39 = .ok (.invokevirtual 75, 3) := by decide +kernel
theorem dX5_readAll_42 : decode cX5_readAll 42 = .ok (.ifCond .eq 17, 3) := by decide +kernel
theorem dX5_readAll_45 : decode cX5_readAll 45 = .ok (.aload_n 0, 1) := by decide +kernel
theorem dX5_readAll_46 : decode cX5_readAll 46 = .ok (.iconst 1, 1) := by decide +kernel
theorem dX5_readAll_47 : decode cX5_readAll 47 = .ok (.iconst 0, 1) := by decide +kernel
theorem dX5_readAll_48 : decode cX5_readAll 48 = .ok (.iconst 0, 1) := by decide +kernel
theorem dX5_readAll_49 : decode cX5_readAll 49 = .ok (.invokevirtual 71, 3) := by decide +kernel
theorem dX5_readAll_52 : decode cX5_readAll 52 = .ok (.ifCond .eq 7, 3) := by decide +kernel
theorem dX5_readAll_55 : decode cX5_readAll 55 = .ok (.iconst 1, 1) := by decide +kernel
theorem dX5_readAll_56 : decode cX5_readAll 56 = .ok (.goto 4, 3) := by decide +kernel
theorem dX5_readAll_59 : decode cX5_readAll 59 = .ok (.iconst 0, 1) := by decide +kernel
theorem dX5_readAll_60 : decode cX5_readAll 60 = .ok (.istore_n 2, 1) := by decide +kernel
theorem dX5_readAll_61 : decode cX5_readAll 61 = .ok (.iinc 3 1, 3) := by decide +kernel
theorem dX5_readAll_64 : decode cX5_readAll 64 = .ok (.goto (-56), 3) := by decide +kernel
theorem dX5_readAll_67 : decode cX5_readAll 67 = .ok (.iload_n 2, 1) := by decide +kernel
theorem dX5_readAll_68 : decode cX5_readAll 68 = .ok (.ireturn, 1) := by decide +kernel
theorem dX5_readCond_0 : decode cX5_readCond 0 = .ok (.aload_n 0, 1) := by decide +kernel
theorem dX5_readCond_1 : decode cX5_readCond 1 = .ok (.iload_n 1, 1) := by decide +kernel
theorem dX5_readCond_2 : decode cX5_readCond 2 = .ok (.invokevirtual 59, 3) := by decide +kernel
theorem dX5_readCond_5 : decode cX5_readCond 5 = .ok (.istore_n 2, 1) := by decide +kernel
theorem dX5_readCond_6 : decode cX5_readCond 6 = .ok (.iconst 0, 1) := by decide +kernel
theorem dX5_readCond_7 : decode cX5_readCond 7 = .ok (.istore_n 3, 1) := by decide +kernel
theorem dX5_readCond_8 : decode cX5_readCond 8 = .ok (.iload_n 3, 1) := by decide +kernel
theorem dX5_readCond_9 : decode cX5_readCond 9 = .ok (.bipush 20, 2) := by decide +kernel
theorem dX5_readCond_11 : decode cX5_readCond 11 = .ok (.if_icmp .ge 56, 3) := by decide +kernel
theorem dX5_readCond_14 : decode cX5_readCond 14 = .ok (.iload_n 2, 1) := by decide +kernel
theorem dX5_readCond_15 : decode cX5_readCond 15 = .ok (.ifCond .eq 52, 3) := by decide +kernel
theorem dX5_readCond_18 : decode cX5_readCond 18 = .ok (.aload_n 0, 1) := by decide +kernel
theorem dX5_readCond_19 : decode cX5_readCond 19 = .ok (.getfield 24, 3) := by decide +kernel
theorem dX5_readCond_22 : decode cX5_readCond 22 = .ok (.ldc 62, 2) := by decide +kernel
theorem dX5_readCond_24 : decode cX5_readCond 24 = .ok (.invokevirtual 64, 3) := by decide +kernel
theorem dX5_readCond_27 : decode cX5_readCond 27 = .ok (.ifCond .eq 40, 3) := by decide +kernel
theorem dX5_readCond_30 : decode cX5_readCond 30 = .ok (.aload_n 0, 1) := by decide +kernel
theorem dX5_readCond_31 : decode cX5_readCond 31 = .ok (.getfield 24, 3) := by decide +kernel
theorem dX5_readCond_34 : decode cX5_readCond 34 = .ok (.invokevirtual 68, 3) := by decide +kernel
theorem dX5_readCond_37 : decode cX5_readCond 37 = .ok (.aload_n 0, 1) := by decide +kernel
theorem dX5_readCond_38 : decode cX5_readCond 38 = .ok (.iload_n 1, 1) := by decide +kernel
theorem dX5_readCond_39 : decode cX5_readCond 39 = .ok (.invokevirtual 59, 3) := by decide +kernel
theorem dX5_readCond_42 : decode cX5_readCond 42 = .ok (.ifCond .eq 17, 3) := by decide +kernel
theorem dX5_readCond_45 : decode cX5_readCond 45 = .ok (.aload_n 0, 1) := by decide +kernel
theorem dX5_readCond_46 : decode cX5_readCond 46 = .ok (.iconst 2, 1) := by decide +kernel
theorem dX5_readCond_47 : decode cX5_readCond 47 = .ok (.iconst 0, 1) := by decide +kernel
theorem dX5_readCond_48 : decode cX5_readCond 48 = .ok (.iconst 0, 1) := by decide +kernel
theorem dX5_readCond_49 : decode cX5_readCond 49 = .ok (.invokevirtual 71, 3) := by decide +kernel
theorem dX5_readCond_52 : decode cX5_readCond 52 = .ok (.ifCond .eq 7, 3) := by decide +kernel
theorem dX5_readCond_55 : decode cX5_readCond 55 = .ok (.iconst 1, 1) := by decide +kernel
theorem dX5_readCond_56 : decode cX5_readCond 56 = .ok (.goto 4, 3) := by decide +kernel
theorem dX5_readCond_59 : decode cX5_readCond 59 = .ok (.iconst 0, 1) := by decide +kernel
theorem dX5_readCond_60 : decode cX5_readCond 60 = .ok (.istore_n 2, 1) := by decide +kernel
theorem dX5_readCond_61 : decode cX5_readCond 61 = .ok (.iinc 3 1, 3) := by decide +kernel
theorem dX5_readCond_64 : decode cX5_readCond 64 = .ok (.goto (-56), 3) := by decide +kernel
theorem dX5_readCond_67 : decode cX5_readCond 67 = .ok (.iload_n 2, 1) := by decide +kernel
theorem dX5_readCond_68 : decode cX5_readCond 68 = .ok (.ireturn, 1) := by decide +kernel
theorem dX5_readLeaf_0 : decode cX5_readLeaf 0 = .ok (.iload_n 1, 1) := by decide +kernel
theorem dX5_readLeaf_1 : decode cX5_readLeaf 1 = .ok (.iconst 5, 1) := by decide +kernel
theorem dX5_readLeaf_2 : decode cX5_readLeaf 2 = .ok (.if_icmp .ne 49, 3) := by decide +kernel
theorem dX5_readLeaf_5 : decode cX5_readLeaf 5 = .ok (.aload_n 0, 1) := by decide +kernel
theorem dX5_readLeaf_6 : decode cX5_readLeaf 6 = .ok (.getfield 24, 3) := by decide +kernel
theorem dX5_readLeaf_9 : decode cX5_readLeaf 9 = .ok (.aload_n 0, 1) := by decide +kernel
theorem dX5_readLeaf_10 : decode cX5_readLeaf 10 = .ok (.getfield 28, 3) := by decide +kernel
theorem dX5_readLeaf_13 : decode cX5_readLeaf 13 = .ok (.aload_n 0, 1) := by decide +kernel
theorem dX5_readLeaf_14 : decode cX5_readLeaf 14 = .ok (.getfield 24, 3) := by decide +kernel
theorem dX5_readLeaf_17 : decode cX5_readLeaf 17 = .ok (.getfield 114, 3) := by decide +kernel
theorem dX5_readLeaf_20 : decode cX5_readLeaf 20 = .ok (.invokevirtual 118, 3) := by decide +kernel
theorem dX5_readLeaf_23 : decode cX5_readLeaf 23 = .ok (.invokevirtual 124, 3) := by decide +kernel
theorem dX5_readLeaf_26 : decode cX5_readLeaf 26 = .ok (.ifCond .eq 23, 3) := by decide +kernel
theorem dX5_readLeaf_29 : decode cX5_readLeaf 29 = .ok (.aload_n 0, 1) := by decide +kernel
theorem dX5_readLeaf_30 : decode cX5_readLeaf 30 = .ok (.iconst 5, 1) := by decide +kernel
theorem dX5_readLeaf_31 : decode cX5_readLeaf 31 = .ok (.iconst 0, 1) := by decide +kernel
theorem dX5_readLeaf_32 : decode cX5_readLeaf 32 = .ok (.aload_n 0, 1) := by decide +kernel
theorem dX5_readLeaf_33 : decode cX5_readLeaf 33 = .ok (.getfield 24, 3) := by decide +kernel
theorem dX5_readLeaf_36 : decode cX5_readLeaf 36 = .ok (.getfield 127, 3) := by decide +kernel
theorem dX5_readLeaf_39 : decode cX5_readLeaf 39 = .ok (.invokevirtual 71, 3) := by decide +kernel
theorem dX5_readLeaf_42 : decode cX5_readLeaf 42 = .ok (.ifCond .eq 7, 3) := by decide +kernel
theorem dX5_readLeaf_45 : decode cX5_readLeaf 45 = .ok (.iconst 1, 1) := by decide +kernel
theorem dX5_readLeaf_46 : decode cX5_readLeaf 46 = .ok (.goto 4, 3) := by decide +kernel
theorem dX5_readLeaf_49 : decode cX5_readLeaf 49 = .ok (.iconst 0, 1) := by decide +kernel
theorem dX5_readLeaf_50 : decode cX5_readLeaf 50 = .ok (.ireturn, 1) := by decide +kernel
theorem dX5_readLeaf_51 : decode cX5_readLeaf 51 = .ok (.iload_n 1, 1) := by decide +kernel
theorem dX5_readLeaf_52 : decode cX5_readLeaf 52 = .ok (.bipush 8, 2) := by decide +kernel
theorem dX5_readLeaf_54 : decode cX5_readLeaf 54 = .ok (.if_icmp .ge 11, 3) := by decide +kernel
theorem dX5_readLeaf_57 : decode cX5_readLeaf 57 = .ok (.aload_n 0, 1) := by decide +kernel
theorem dX5_readLeaf_58 : decode cX5_readLeaf 58 = .ok (.iload_n 1, 1) := by decide +kernel
theorem dX5_readLeaf_59 : decode cX5_readLeaf 59 = .ok (.iconst 0, 1) := by decide +kernel
theorem dX5_readLeaf_60 : decode cX5_readLeaf 60 = .ok (.iconst 0, 1) := by decide +kernel
theorem dX5_readLeaf_61 : decode cX5_readLeaf 61 = .ok (.invokevirtual 71, 3) := by decide +kernel
theorem dX5_readLeaf_64 : decode cX5_readLeaf 64 = .ok (.ireturn, 1) := by decide +kernel
theorem dX5_readLeaf_65 : decode cX5_readLeaf 65 = .ok (.aload_n 0, 1) := by decide +kernel
theorem dX5_readLeaf_66 : decode cX5_readLeaf 66 = .ok (.getfield 24, 3) := by decide +kernel
theorem dX5_readLeaf_69 : decode cX5_readLeaf 69 = .ok (.bipush 60, 2) := by decide +kernel
theorem dX5_readLeaf_71 : decode cX5_readLeaf 71 = .ok (.invokevirtual 86, 3) := by decide +kernel
theorem dX5_readLeaf_74 : decode cX5_readLeaf 74 = .ok (.ifCond .ne 36, 3) := by decide +kernel
theorem dX5_readLeaf_77 : decode cX5_readLeaf 77 = .ok (.aload_n 0, 1) := by decide +kernel
theorem dX5_readLeaf_78 : decode cX5_readLeaf 78 = .ok (.getfield 24, 3) := by decide +kernel
theorem dX5_readLeaf_81 : decode cX5_readLeaf 81 = .ok (.bipush 61, 2) := by decide +kernel
theorem dX5_readLeaf_83 : decode cX5_readLeaf 83 = .ok (.invokevirtual 86, 3) := by decide +kernel
theorem dX5_readLeaf_86 : decode cX5_readLeaf 86 = .ok (.ifCond .ne 24, 3) := by decide +kernel
theorem dX5_readLeaf_89 : decode cX5_readLeaf 89 = .ok (.aload_n 0, 1) := by decide +kernel
theorem dX5_readLeaf_90 : decode cX5_readLeaf 90 = .ok (.getfield 24, 3) := by decide +kernel
theorem dX5_readLeaf_93 : decode cX5_readLeaf 93 = .ok (.bipush 62, 2) := by decide +kernel
theorem dX5_readLeaf_95 : decode cX5_readLeaf 95 = .ok (.invokevirtual 86, 3) := by decide +kernel
theorem dX5_readLeaf_98 : decode cX5_readLeaf 98 = .ok (.ifCond .ne 12, 3) := by decide +kernel
theorem dX5_readLeaf_101 : decode cX5_readLeaf 101 = .ok (.aload_n 0, 1) := by decide +kernel
theorem dX5_readLeaf_102 : decode cX5_readLeaf 102 = .ok (.getfield 24, 3) := by decide +kernel
theorem dX5_readLeaf_105 : decode cX5_readLeaf 105 = .ok (.iconst 1, 1) := by decide +kernel
theorem dX5_readLeaf_106 : decode cX5_readLeaf 106 = .ok (.invokevirtual 56, 3) := by decide +kernel
theorem dX5_readLeaf_109 : decode cX5_readLeaf 109 = .ok (.ireturn, 1) := by decide +kernel
theorem dX5_readLeaf_110 : decode cX5_readLeaf 110 = .ok (.aload_n 0, 1) := by decide +kernel
theorem dX5_readLeaf_111 : decode cX5_readLeaf 111 = .ok (.getfield 24, 3) := by decide +kernel
theorem dX5_readLeaf_114 : decode cX5_readLeaf 114 = .ok (.getfield 130, 3) := by decide +kernel
theorem dX5_readLeaf_117 : decode cX5_readLeaf 117 = .ok (.istore_n 2, 1) := by decide +kernel
theorem dX5_readLeaf_118 : decode cX5_readLeaf 118 = .ok (.aload_n 0, 1) := by decide +kernel
theorem dX5_readLeaf_119 : decode cX5_readLeaf 119 = .ok (.getfield 24, 3) := by decide +kernel
theorem dX5_readLeaf_122 : decode cX5_readLeaf 122 = .ok (.invokevirtual 68, 3) := by decide +kernel
theorem dX5_readLeaf_125 : decode cX5_readLeaf 125 = .ok (.aload_n 0, 1) := by decide +kernel
theorem dX5_readLeaf_126 : decode cX5_readLeaf 126 = .ok (.getfield 24, 3) := by decide +kernel
theorem dX5_readLeaf_129 : decode cX5_readLeaf 129 = .ok (.iconst 0, 1) := by decide +kernel
theorem dX5_readLeaf_130 : decode cX5_readLeaf 130 = .ok (.sipush 999, 3) := by decide +kernel
theorem dX5_readLeaf_133 : decode cX5_readLeaf 133 = .ok (.invokevirtual 132, 3) := by decide +kernel
theorem dX5_readLeaf_136 : decode cX5_readLeaf 136 = .ok (.ifCond .eq 23, 3) := by decide +kernel
theorem dX5_readLeaf_139 : decode cX5_readLeaf 139 = .ok (.aload_n 0, 1) := by decide +kernel
theorem dX5_readLeaf_140 : decode cX5_readLeaf 140 = .ok (.iload_n 1, 1) := by decide +kernel
theorem dX5_readLeaf_141 : decode cX5_readLeaf 141 = .ok (.iload_n 2, 1) := by decide +kernel
theorem dX5_readLeaf_142 : decode cX5_readLeaf 142 = .ok (.aload_n 0, 1) := by decide +kernel
theorem dX5_readLeaf_143 : decode cX5_readLeaf 143 = .ok (.getfield 24, 3) := by decide +kernel
theorem dX5_readLeaf_146 : decode cX5_readLeaf 146 = .ok (.getfield 127, 3) := by decide +kernel
theorem dX5_readLeaf_149 : decode cX5_readLeaf 149 = .ok (.invokevirtual 71, 3) := by decide +kernel
theorem dX5_readLeaf_152 : decode cX5_readLeaf 152 = .ok (.ifCond .eq 7, 3) := by decide +kernel
theorem dX5_readLeaf_155 : decode cX5_readLeaf 155 = .ok (.iconst 1, 1) := by decide +kernel
theorem dX5_readLeaf_156 : decode cX5_readLeaf 156 = .ok (.goto 4, 3) := by decide +kernel
theorem dX5_readLeaf_159 : decode cX5_readLeaf 159 = .ok (.iconst 0, 1) := by decide +kernel
theorem dX5_readLeaf_160 : decode cX5_readLeaf 160 = .ok (.ireturn, 1) := by decide +kernel
theorem dX5_readOne_0 : decode cX5_readOne 0 = .ok (.aload_n 0, 1) := by decide +kernel
theorem dX5_readOne_1 : decode cX5_readOne 1 = .ok (.invokevirtual 80, 3) := by decide +kernel
theorem dX5_readOne_4 : decode cX5_readOne 4 = .ok (.istore_n 2, 1) := by decide +kernel
theorem dX5_readOne_5 : decode cX5_readOne 5 = .ok (.aload_n 0, 1) := by decide +kernel
theorem dX5_readOne_6 : decode cX5_readOne 6 = .ok (.getfield 24, 3) := by decide +kernel
theorem dX5_readOne_9 : decode cX5_readOne 9 = .ok (.ldc 84, 2) := by decide +kernel
theorem dX5_readOne_11 : decode cX5_readOne 11 = .ok (.invokevirtual 64, 3) := by decide +kernel
theorem dX5_readOne_14 : decode cX5_readOne 14 = .ok (.istore_n 3, 1) := by decide +kernel
theorem dX5_readOne_15 : decode cX5_readOne 15 = .ok (.aload_n 0, 1) := by decide +kernel
theorem dX5_readOne_16 : decode cX5_readOne 16 = .ok (.getfield 24, 3) := by decide +kernel
theorem dX5_readOne_19 : decode cX5_readOne 19 = .ok (.bipush 40, 2) := by decide +kernel
theorem dX5_readOne_21 : decode cX5_readOne 21 = .ok (.invokevirtual 86, 3) := by decide +kernel
theorem dX5_readOne_24 : decode cX5_readOne 24 = .ok (.istore 4, 2) := by decide +kernel
theorem dX5_readOne_26 : decode cX5_readOne 26 = .ok (.iload_n 2, 1) := by decide +kernel
theorem dX5_readOne_27 : decode cX5_readOne 27 = .ok (.iconst (-1), 1) := by decide +kernel
theorem dX5_readOne_28 : decode cX5_readOne 28 = .ok (.if_icmp .ne 21, 3) := by decide +kernel
theorem dX5_readOne_31 : decode cX5_readOne 31 = .ok (.iload_n 3, 1) := by decide +kernel
theorem dX5_readOne_32 : decode cX5_readOne 32 = .ok (.ifCond .ne 17, 3) := by decide +kernel
theorem dX5_readOne_35 : decode cX5_readOne 35 = .ok (.iload 4, 2) := by decide +kernel
theorem dX5_readOne_37 : decode cX5_readOne 37 = .ok (.ifCond .ne 12, 3) := by decide +kernel
theorem dX5_readOne_40 : decode cX5_readOne 40 = .ok (.aload_n 0, 1) := by decide +kernel
theorem dX5_readOne_41 : decode cX5_readOne 41 = .ok (.getfield 24, 3) := by decide +kernel
theorem dX5_readOne_44 : decode cX5_readOne 44 = .ok (.iconst 1, 1) := by decide +kernel
theorem dX5_readOne_45 : decode cX5_readOne 45 = .ok (.invokevirtual 56, 3) := by decide +kernel
theorem dX5_readOne_48 : decode cX5_readOne 48 = .ok (.ireturn, 1) := by decide +kernel
theorem dX5_readOne_49 : decode cX5_readOne 49 = .ok (.aload_n 0, 1) := by decide +kernel
theorem dX5_readOne_50 : decode cX5_readOne 50 = .ok (.getfield 36, 3) := by decide +kernel
theorem dX5_readOne_53 : decode cX5_readOne 53 = .ok (.bipush 20, 2) := by decide +kernel
theorem dX5_readOne_55 : decode cX5_readOne 55 = .ok (.if_icmp .ge 9, 3) := by decide +kernel
theorem dX5_readOne_58 : decode cX5_readOne 58 = .ok (.iload_n 1, 1) := by decide +kernel
theorem dX5_readOne_59 : decode cX5_readOne 59 = .ok (.bipush 8, 2) := by decide +kernel
theorem dX5_readOne_61 : decode cX5_readOne 61 = .ok (.if_icmp .le 12, 3) := by decide +kernel
theorem dX5_readOne_64 : decode cX5_readOne 64 = .ok (.aload_n 0, 1) := by decide +kernel
theorem dX5_readOne_65 : decode cX5_readOne 65 = .ok (.getfield 24, 3) := by decide +kernel
theorem dX5_readOne_68 : decode cX5_readOne 68 = .ok (.iconst 4, 1) := by decide +kernel
theorem dX5_readOne_69 : decode cX5_readOne 69 = .ok (.invokevirtual 56, 3) := by decide +kernel
theorem dX5_readOne_72 : decode cX5_readOne 72 = .ok (.ireturn, 1) := by decide +kernel
theorem dX5_readOne_73 : decode cX5_readOne 73 = .ok (.aload_n 0, 1) := by decide +kernel
theorem dX5_readOne_74 : decode cX5_readOne 74 = .ok (.dup, 1) := by decide +kernel
theorem dX5_readOne_75 : decode cX5_readOne 75 = .ok (.getfield 36, 3) := by decide +kernel
theorem dX5_readOne_78 : decode cX5_readOne 78 = .ok (.iconst 1, 1) := by decide +kernel
theorem dX5_readOne_79 : decode cX5_readOne 79 = .ok (.iadd, 1) := by decide +kernel
theorem dX5_readOne_80 : decode cX5_readOne 80 = .ok (.putfield 36, 3) := by decide +kernel
theorem dX5_readOne_83 : decode cX5_readOne 83 = .ok (.aload_n 0, 1) := by decide +kernel
theorem dX5_readOne_84 : decode cX5_readOne 84 = .ok (.getfield 24, 3) := by decide +kernel
theorem dX5_readOne_87 : decode cX5_readOne 87 = .ok (.invokevirtual 68, 3) := by decide +kernel
theorem dX5_readOne_90 : decode cX5_readOne 90 = .ok (.iload_n 3, 1) := by decide +kernel
theorem dX5_readOne_91 : decode cX5_readOne 91 = .ok (.ifCond .eq 29, 3) := by decide +kernel
theorem dX5_readOne_94 : decode cX5_readOne 94 = .ok (.aload_n 0, 1) := by decide +kernel
theorem dX5_readOne_95 : decode cX5_readOne 95 = .ok (.iload_n 1, 1) := by decide +kernel
theorem dX5_readOne_96 : decode cX5_readOne 96 = .ok (.iconst 1, 1) := by decide +kernel
theorem dX5_readOne_97 : decode cX5_readOne 97 = .ok (.iadd, 1) := by decide +kernel
theorem dX5_readOne_98 : decode cX5_readOne 98 = .ok (.invokevirtual 75, 3) := by decide +kernel
theorem dX5_readOne_101 : decode cX5_readOne 101 = .ok (.ifCond .eq 17, 3) := by decide +kernel
theorem dX5_readOne_104 : decode cX5_readOne 104 = .ok (.aload_n 0, 1) := by decide +kernel
theorem dX5_readOne_105 : decode cX5_readOne 105 = .ok (.iconst 0, 1) := by decide +kernel
theorem dX5_readOne_106 : decode cX5_readOne 106 = .ok (.iconst 0, 1) := by decide +kernel
theorem dX5_readOne_107 : decode cX5_readOne 107 = .ok (.iconst 0, 1) := by decide +kernel
theorem dX5_readOne_108 : decode cX5_readOne 108 = .ok (.invokevirtual 71, 3) := by decide +kernel
theorem dX5_readOne_111 : decode cX5_readOne 111 = .ok (.ifCond .eq 7, 3) := by decide +kernel
theorem dX5_readOne_114 : decode cX5_readOne 114 = .ok (.iconst 1, 1) := by decide +kernel
theorem dX5_readOne_115 : decode cX5_readOne 115 = .ok (.goto 4, 3) := by decide +kernel
theorem dX5_readOne_118 : decode cX5_readOne 118 = .ok (.iconst 0, 1) := by decide +kernel
theorem dX5_readOne_119 : decode cX5_readOne 119 = .ok (.ireturn, 1) := by decide +kernel
theorem dX5_readOne_120 : decode cX5_readOne 120 = .ok (.iload 4, 2) := by decide +kernel
theorem dX5_readOne_122 : decode cX5_readOne 122 = .ok (.ifCond .eq 31, 3) := by decide +kernel
theorem dX5_readOne_125 : decode cX5_readOne 125 = .ok (.aload_n 0, 1) := by decide +kernel
theorem dX5_readOne_126 : decode cX5_readOne 126 = .ok (.iload_n 1, 1) := by decide +kernel
theorem dX5_readOne_127 : decode cX5_readOne 127 = .ok (.iconst 1, 1) := by decide +kernel
theorem dX5_readOne_128 : decode cX5_readOne 128 = .ok (.iadd, 1) := by decide +kernel
theorem dX5_readOne_129 : decode cX5_readOne 129 = .ok (.invokevirtual 49, 3) := by decide +kernel
theorem dX5_readOne_132 : decode cX5_readOne 132 = .ok (.ifCond .eq 19, 3) := by decide +kernel
theorem dX5_readOne_135 : decode cX5_readOne 135 = .ok (.aload_n 0, 1) := by decide +kernel
