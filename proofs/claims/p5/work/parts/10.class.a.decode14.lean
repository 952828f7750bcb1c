theorem dX8_readOfName_34 : decode cX8_readOfName 34 = .ok (.getfield 9, 3) := by decide +kernel
theorem dX8_readOfName_37 : decode cX8_readOfName 37 = .ok (.iload_n 2, 1) := by decide +kernel
theorem dX8_readOfName_38 : decode cX8_readOfName 38 = .ok (.iload_n 3, 1) := by decide +kernel
theorem dX8_readOfName_39 : decode cX8_readOfName 39 = .ok (.invokevirtual 109, 3) := by decide +kernel
theorem dX8_readOfName_42 : decode cX8_readOfName 42 = .ok (.ifCond .eq 15, 3) := by decide +kernel
theorem dX8_readOfName_45 : decode cX8_readOfName 45 = .ok (.iload 4, 2) := by decide +kernel
theorem dX8_readOfName_47 : decode cX8_readOfName 47 = .ok (.ifCond .lt 10, 3) := by decide +kernel
theorem dX8_readOfName_50 : decode cX8_readOfName 50 = .ok (.iload 4, 2) := by decide +kernel
theorem dX8_readOfName_52 : decode cX8_readOfName 52 = .ok (.aload_n 1, 1) := by decide +kernel
theorem dX8_readOfName_53 : decode cX8_readOfName 53 = .ok (.arraylength, 1) := by decide +kernel
theorem dX8_readOfName_54 : decode cX8_readOfName 54 = .ok (.if_icmp .lt 5, 3) := by decide +kernel
theorem dX8_readOfName_57 : decode cX8_readOfName 57 = .ok (.iconst 0, 1) := by decide +kernel
theorem dX8_readOfName_58 : decode cX8_readOfName 58 = .ok (.ireturn, 1) := by decide +kernel
theorem dX8_readOfName_59 : decode cX8_readOfName 59 = .ok (.aload_n 1, 1) := by decide +kernel
theorem dX8_readOfName_60 : decode cX8_readOfName 60 = .ok (.iload 4, 2) := by decide +kernel
theorem dX8_readOfName_62 : decode cX8_readOfName 62 = .ok (.aload_n 0, 1) := by decide +kernel
theorem dX8_readOfName_63 : decode cX8_readOfName 63 = .ok (.getfield 9, 3) := by decide +kernel
theorem dX8_readOfName_66 : decode cX8_readOfName 66 = .ok (.getfield 113, 3) := by decide +kernel
theorem dX8_readOfName_69 : decode cX8_readOfName 69 = .ok (.iastore, 1) := by decide +kernel
theorem dX8_readOfName_70 : decode cX8_readOfName 70 = .ok (.iconst 1, 1) := by decide +kernel
theorem dX8_readOfName_71 : decode cX8_readOfName 71 = .ok (.ireturn, 1) := by decide +kernel
theorem dX8_readOld_0 : decode cX8_readOld 0 = .ok (.aload_n 0, 1) := by decide +kernel
theorem dX8_readOld_1 : decode cX8_readOld 1 = .ok (.aload_n 0, 1) := by decide +kernel
theorem dX8_readOld_2 : decode cX8_readOld 2 = .ok (.getfield 15, 3) := by decide +kernel
theorem dX8_readOld_5 : decode cX8_readOld 5 = .ok (.aload_n 0, 1) := by decide +kernel
theorem dX8_readOld_6 : decode cX8_readOld 6 = .ok (.getfield 9, 3) := by decide +kernel
theorem dX8_readOld_9 : decode cX8_readOld 9 = .ok (.getfield 102, 3) := by decide +kernel
theorem dX8_readOld_12 : decode cX8_readOld 12 = .ok (.invokevirtual 151, 3) := by decide +kernel
theorem dX8_readOld_15 : decode cX8_readOld 15 = .ok (.aload_n 0, 1) := by decide +kernel
theorem dX8_readOld_16 : decode cX8_readOld 16 = .ok (.getfield 15, 3) := by decide +kernel
theorem dX8_readOld_19 : decode cX8_readOld 19 = .ok (.getfield 156, 3) := by decide +kernel
theorem dX8_readOld_22 : decode cX8_readOld 22 = .ok (.invokevirtual 147, 3) := by decide +kernel
theorem dX8_readOld_25 : decode cX8_readOld 25 = .ok (.ifCond .ne 5, 3) := by decide +kernel
theorem dX8_readOld_28 : decode cX8_readOld 28 = .ok (.iconst 0, 1) := by decide +kernel
theorem dX8_readOld_29 : decode cX8_readOld 29 = .ok (.ireturn, 1) := by decide +kernel
theorem dX8_readOld_30 : decode cX8_readOld 30 = .ok (.aload_n 0, 1) := by decide +kernel
theorem dX8_readOld_31 : decode cX8_readOld 31 = .ok (.getfield 9, 3) := by decide +kernel
theorem dX8_readOld_34 : decode cX8_readOld 34 = .ok (.getfield 113, 3) := by decide +kernel
theorem dX8_readOld_37 : decode cX8_readOld 37 = .ok (.istore_n 1, 1) := by decide +kernel
theorem dX8_readOld_38 : decode cX8_readOld 38 = .ok (.aload_n 0, 1) := by decide +kernel
theorem dX8_readOld_39 : decode cX8_readOld 39 = .ok (.getfield 9, 3) := by decide +kernel
theorem dX8_readOld_42 : decode cX8_readOld 42 = .ok (.iconst 0, 1) := by decide +kernel
theorem dX8_readOld_43 : decode cX8_readOld 43 = .ok (.sipush 199, 3) := by decide +kernel
theorem dX8_readOld_46 : decode cX8_readOld 46 = .ok (.invokevirtual 109, 3) := by decide +kernel
theorem dX8_readOld_49 : decode cX8_readOld 49 = .ok (.ifCond .eq 14, 3) := by decide +kernel
theorem dX8_readOld_52 : decode cX8_readOld 52 = .ok (.aload_n 0, 1) := by decide +kernel
theorem dX8_readOld_53 : decode cX8_readOld 53 = .ok (.getfield 15, 3) := by decide +kernel
theorem dX8_readOld_56 : decode cX8_readOld 56 = .ok (.iload_n 1, 1) := by decide +kernel
theorem dX8_readOld_57 : decode cX8_readOld 57 = .ok (.invokevirtual 141, 3) := by decide +kernel
theorem dX8_readOld_60 : decode cX8_readOld 60 = .ok (.ifCond .ne 5, 3) := by decide +kernel
theorem dX8_readOld_63 : decode cX8_readOld 63 = .ok (.iconst 0, 1) := by decide +kernel
theorem dX8_readOld_64 : decode cX8_readOld 64 = .ok (.ireturn, 1) := by decide +kernel
theorem dX8_readOld_65 : decode cX8_readOld 65 = .ok (.aload_n 0, 1) := by decide +kernel
theorem dX8_readOld_66 : decode cX8_readOld 66 = .ok (.getfield 15, 3) := by decide +kernel
theorem dX8_readOld_69 : decode cX8_readOld 69 = .ok (.getfield 156, 3) := by decide +kernel
theorem dX8_readOld_72 : decode cX8_readOld 72 = .ok (.iload_n 1, 1) := by decide +kernel
theorem dX8_readOld_73 : decode cX8_readOld 73 = .ok (.aload_n 0, 1) := by decide +kernel
theorem dX8_readOld_74 : decode cX8_readOld 74 = .ok (.getfield 9, 3) := by decide +kernel
theorem dX8_readOld_77 : decode cX8_readOld 77 = .ok (.getfield 113, 3) := by decide +kernel
theorem dX8_readOld_80 : decode cX8_readOld 80 = .ok (.iastore, 1) := by decide +kernel
theorem dX8_readOld_81 : decode cX8_readOld 81 = .ok (.iconst 1, 1) := by decide +kernel
theorem dX8_readOld_82 : decode cX8_readOld 82 = .ok (.ireturn, 1) := by decide +kernel
theorem dX8_readSoulLine_0 : decode cX8_readSoulLine 0 = .ok (.aload_n 0, 1) := by decide +kernel
theorem dX8_readSoulLine_1 : decode cX8_readSoulLine 1 = .ok (.getfield 15, 3) := by decide +kernel
theorem dX8_readSoulLine_4 : decode cX8_readSoulLine 4 = .ok (.getfield 120, 3) := by decide +kernel
theorem dX8_readSoulLine_7 : decode cX8_readSoulLine 7 = .ok (.bipush 9, 2) := by decide +kernel
theorem dX8_readSoulLine_9 : decode cX8_readSoulLine 9 = .ok (.if_icmp .lt 12, 3) := by decide +kernel
theorem dX8_readSoulLine_12 : decode cX8_readSoulLine 12 = .ok (.aload_n 0, 1) := by decide +kernel
theorem dX8_readSoulLine_13 : decode cX8_readSoulLine 13 = .ok (.getfield 9, 3) := by decide +kernel
theorem dX8_readSoulLine_16 : decode cX8_readSoulLine 16 = .ok (.iconst 4, 1) := by decide +kernel
theorem dX8_readSoulLine_17 : decode cX8_readSoulLine 17 = .ok (.invokevirtual 92, 3) := by decide +kernel
theorem dX8_readSoulLine_20 : decode cX8_readSoulLine 20 = .ok (.ireturn, 1) := by decide +kernel
theorem dX8_readSoulLine_21 : decode cX8_readSoulLine 21 = .ok (.aload_n 0, 1) := by decide +kernel
theorem dX8_readSoulLine_22 : decode cX8_readSoulLine 22 = .ok (.getfield 9, 3) := by decide +kernel
theorem dX8_readSoulLine_25 : decode cX8_readSoulLine 25 = .ok (.invokevirtual 99, 3) := by decide +kernel
theorem dX8_readSoulLine_28 : decode cX8_readSoulLine 28 = .ok (.aload_n 0, 1) := by decide +kernel
theorem dX8_readSoulLine_29 : decode cX8_readSoulLine 29 = .ok (.getfield 9, 3) := by decide +kernel
theorem dX8_readSoulLine_32 : decode cX8_readSoulLine 32 = .ok (.getfield 102, 3) := by decide +kernel
theorem dX8_readSoulLine_35 : decode cX8_readSoulLine 35 = .ok (.lstore_n 1, 1) := by decide +kernel
theorem dX8_readSoulLine_36 : decode cX8_readSoulLine 36 = .ok (.aload_n 0, 1) := by decide +kernel
theorem dX8_readSoulLine_37 : decode cX8_readSoulLine 37 = .ok (.invokevirtual 106, 3) := by decide +kernel
theorem dX8_readSoulLine_40 : decode cX8_readSoulLine 40 = .ok (.ifCond .eq 17, 3) := by decide +kernel
theorem dX8_readSoulLine_43 : decode cX8_readSoulLine 43 = .ok (.aload_n 0, 1) := by decide +kernel
theorem dX8_readSoulLine_44 : decode cX8_readSoulLine 44 = .ok (.getfield 9, 3) := by decide +kernel
theorem dX8_readSoulLine_47 : decode cX8_readSoulLine 47 = .ok (.iconst 0, 1) := by decide +kernel
theorem dX8_readSoulLine_48 : decode cX8_readSoulLine 48 = .ok (.sipush 999, 3) := by decide +kernel
theorem dX8_readSoulLine_51 : decode cX8_readSoulLine 51 = .ok (.invokevirtual 109, 3) := by decide +kernel
theorem dX8_readSoulLine_54 : decode cX8_readSoulLine 54 = .ok (.ifCond .ne 5, 3) := by decide +kernel
theorem dX8_readSoulLine_57 : decode cX8_readSoulLine 57 = .ok (.iconst 0, 1) := by decide +kernel
theorem dX8_readSoulLine_58 : decode cX8_readSoulLine 58 = .ok (.ireturn, 1) := by decide +kernel
theorem dX8_readSoulLine_59 : decode cX8_readSoulLine 59 = .ok (.aload_n 0, 1) := by decide +kernel
theorem dX8_readSoulLine_60 : decode cX8_readSoulLine 60 = .ok (.getfield 15, 3) := by decide +kernel
theorem dX8_readSoulLine_63 : decode cX8_readSoulLine 63 = .ok (.lload_n 1, 1) := by decide +kernel
theorem dX8_readSoulLine_64 : decode cX8_readSoulLine 64 = .ok (.aload_n 0, 1) := by decide +kernel
theorem dX8_readSoulLine_65 : decode cX8_readSoulLine 65 = .ok (.getfield 9, 3) := by decide +kernel
theorem dX8_readSoulLine_68 : decode cX8_readSoulLine 68 = .ok (.getfield 113, 3) := by decide +kernel
theorem dX8_readSoulLine_71 : decode cX8_readSoulLine 71 = .ok (.invokevirtual 123, 3) := by decide +kernel
theorem dX8_readSoulLine_74 : decode cX8_readSoulLine 74 = .ok (.aload_n 0, 1) := by decide +kernel
theorem dX8_readSoulLine_75 : decode cX8_readSoulLine 75 = .ok (.getfield 9, 3) := by decide +kernel
theorem dX8_readSoulLine_78 : decode cX8_readSoulLine 78 = .ok (.ldc 126, 2) := by decide +kernel
theorem dX8_readSoulLine_80 : decode cX8_readSoulLine 80 = .ok (.invokevirtual 47, 3) := by decide +kernel
theorem dX8_readSoulLine_83 : decode cX8_readSoulLine 83 = .ok (.ifCond .ne 5, 3) := by decide +kernel
theorem dX8_readSoulLine_86 : decode cX8_readSoulLine 86 = .ok (.iconst 1, 1) := by decide +kernel
theorem dX8_readSoulLine_87 : decode cX8_readSoulLine 87 = .ok (.ireturn, 1) := by decide +kernel
theorem dX8_readSoulLine_88 : decode cX8_readSoulLine 88 = .ok (.aload_n 0, 1) := by decide +kernel
theorem dX8_readSoulLine_89 : decode cX8_readSoulLine 89 = .ok (.getfield 9, 3) := by decide +kernel
theorem dX8_readSoulLine_92 : decode cX8_readSoulLine 92 = .ok (.invokevirtual 99, 3) := by decide +kernel
theorem dX8_readSoulLine_95 : decode cX8_readSoulLine 95 = .ok (.aload_n 0, 1) := by decide +kernel
theorem dX8_readSoulLine_96 : decode cX8_readSoulLine 96 = .ok (.aload_n 0, 1) := by decide +kernel
theorem dX8_readSoulLine_97 : decode cX8_readSoulLine 97 = .ok (.getfield 15, 3) := by decide +kernel
theorem dX8_readSoulLine_100 : decode cX8_readSoulLine 100 = .ok (.getfield 120, 3) := by decide +kernel
theorem dX8_readSoulLine_103 : decode cX8_readSoulLine 103 = .ok (.iconst 1, 1) := by decide +kernel
theorem dX8_readSoulLine_104 : decode cX8_readSoulLine 104 = .ok (.isub, 1) := by decide +kernel
theorem dX8_readSoulLine_105 : decode cX8_readSoulLine 105 = .ok (.invokevirtual 128, 3) := by decide +kernel
theorem dX8_readSoulLine_108 : decode cX8_readSoulLine 108 = .ok (.ireturn, 1) := by decide +kernel
theorem dX8_readWish_0 : decode cX8_readWish 0 = .ok (.aload_n 0, 1) := by decide +kernel
theorem dX8_readWish_1 : decode cX8_readWish 1 = .ok (.aload_n 0, 1) := by decide +kernel
theorem dX8_readWish_2 : decode cX8_readWish 2 = .ok (.getfield 15, 3) := by decide +kernel
theorem dX8_readWish_5 : decode cX8_readWish 5 = .ok (.aload_n 0, 1) := by decide +kernel
theorem dX8_readWish_6 : decode cX8_readWish 6 = .ok (.getfield 9, 3) := by decide +kernel
theorem dX8_readWish_9 : decode cX8_readWish 9 = .ok (.getfield 102, 3) := by decide +kernel
theorem dX8_readWish_12 : decode cX8_readWish 12 = .ok (.invokevirtual 151, 3) := by decide +kernel
theorem dX8_readWish_15 : decode cX8_readWish 15 = .ok (.aload_n 0, 1) := by decide +kernel
theorem dX8_readWish_16 : decode cX8_readWish 16 = .ok (.getfield 15, 3) := by decide +kernel
theorem dX8_readWish_19 : decode cX8_readWish 19 = .ok (.getfield 154, 3) := by decide +kernel
theorem dX8_readWish_22 : decode cX8_readWish 22 = .ok (.invokevirtual 147, 3) := by decide +kernel
theorem dX8_readWish_25 : decode cX8_readWish 25 = .ok (.ifCond .ne 5, 3) := by decide +kernel
theorem dX8_readWish_28 : decode cX8_readWish 28 = .ok (.iconst 0, 1) := by decide +kernel
theorem dX8_readWish_29 : decode cX8_readWish 29 = .ok (.ireturn, 1) := by decide +kernel
theorem dX8_readWish_30 : decode cX8_readWish 30 = .ok (.aload_n 0, 1) := by decide +kernel
theorem dX8_readWish_31 : decode cX8_readWish 31 = .ok (.getfield 9, 3) := by decide +kernel
theorem dX8_readWish_34 : decode cX8_readWish 34 = .ok (.getfield 113, 3) := by decide +kernel
theorem dX8_readWish_37 : decode cX8_readWish 37 = .ok (.istore_n 1, 1) := by decide +kernel
theorem dX8_readWish_38 : decode cX8_readWish 38 = .ok (.aload_n 0, 1) := by decide +kernel
theorem dX8_readWish_39 : decode cX8_readWish 39 = .ok (.getfield 9, 3) := by decide +kernel
theorem dX8_readWish_42 : decode cX8_readWish 42 = .ok (.aload_n 0, 1) := by decide +kernel
theorem dX8_readWish_43 : decode cX8_readWish 43 = .ok (.getfield 15, 3) := by decide +kernel
theorem dX8_readWish_46 : decode cX8_readWish 46 = .ok (.aload_n 0, 1) := by decide +kernel
theorem dX8_readWish_47 : decode cX8_readWish 47 = .ok (.getfield 9, 3) := by decide +kernel
theorem dX8_readWish_50 : decode cX8_readWish 50 = .ok (.getfield 102, 3) := by decide +kernel
theorem dX8_readWish_53 : decode cX8_readWish 53 = .ok (.invokevirtual 131, 3) := by decide +kernel
theorem dX8_readWish_56 : decode cX8_readWish 56 = .ok (.invokevirtual 138, 3) := by decide +kernel
theorem dX8_readWish_59 : decode cX8_readWish 59 = .ok (.ifCond .eq 14, 3) := by decide +kernel
theorem dX8_readWish_62 : decode cX8_readWish 62 = .ok (.aload_n 0, 1) := by decide +kernel
theorem dX8_readWish_63 : decode cX8_readWish 63 = .ok (.getfield 15, 3) := by decide +kernel
theorem dX8_readWish_66 : decode cX8_readWish 66 = .ok (.iload_n 1, 1) := by decide +kernel
theorem dX8_readWish_67 : decode cX8_readWish 67 = .ok (.invokevirtual 141, 3) := by decide +kernel
theorem dX8_readWish_70 : decode cX8_readWish 70 = .ok (.ifCond .ne 5, 3) := by decide +kernel
theorem dX8_readWish_73 : decode cX8_readWish 73 = .ok (.iconst 0, 1) := by decide +kernel
theorem dX8_readWish_74 : decode cX8_readWish 74 = .ok (.ireturn, 1) := by decide +kernel
theorem dX8_readWish_75 : decode cX8_readWish 75 = .ok (.aload_n 0, 1) := by decide +kernel
theorem dX8_readWish_76 : decode cX8_readWish 76 = .ok (.getfield 15, 3) := by decide +kernel
theorem dX8_readWish_79 : decode cX8_readWish 79 = .ok (.getfield 154, 3) := by decide +kernel
theorem dX8_readWish_82 : decode cX8_readWish 82 = .ok (.iload_n 1, 1) := by decide +kernel
theorem dX8_readWish_83 : decode cX8_readWish 83 = .ok (.aload_n 0, 1) := by decide +kernel
theorem dX8_readWish_84 : decode cX8_readWish 84 = .ok (.getfield 9, 3) := by decide +kernel
theorem dX8_readWish_87 : decode cX8_readWish 87 = .ok (.getfield 113, 3) := by decide +kernel
theorem dX8_readWish_90 : decode cX8_readWish 90 = .ok (.iastore, 1) := by decide +kernel
theorem dX8_readWish_91 : decode cX8_readWish 91 = .ok (.iconst 1, 1) := by decide +kernel
theorem dX8_readWish_92 : decode cX8_readWish 92 = .ok (.ireturn, 1) := by decide +kernel
theorem dX8_readWorth_0 : decode cX8_readWorth 0 = .ok (.aload_n 0, 1) := by decide +kernel
theorem dX8_readWorth_1 : decode cX8_readWorth 1 = .ok (.getfield 9, 3) := by decide +kernel
theorem dX8_readWorth_4 : decode cX8_readWorth 4 = .ok (.aload_n 0, 1) := by decide +kernel
theorem dX8_readWorth_5 : decode cX8_readWorth 5 = .ok (.getfield 15, 3) := by decide +kernel
theorem dX8_readWorth_8 : decode cX8_readWorth 8 = .ok (.aload_n 0, 1) := by decide +kernel
theorem dX8_readWorth_9 : decode cX8_readWorth 9 = .ok (.getfield 9, 3) := by decide +kernel
theorem dX8_readWorth_12 : decode cX8_readWorth 12 = .ok (.getfield 102, 3) := by decide +kernel
theorem dX8_readWorth_15 : decode cX8_readWorth 15 = .ok (.invokevirtual 151, 3) := by decide +kernel
theorem dX8_readWorth_18 : decode cX8_readWorth 18 = .ok (.invokevirtual 138, 3) := by decide +kernel
theorem dX8_readWorth_21 : decode cX8_readWorth 21 = .ok (.ifCond .ne 5, 3) := by decide +kernel
theorem dX8_readWorth_24 : decode cX8_readWorth 24 = .ok (.iconst 0, 1) := by decide +kernel
theorem dX8_readWorth_25 : decode cX8_readWorth 25 = .ok (.ireturn, 1) := by decide +kernel
theorem dX8_readWorth_26 : decode cX8_readWorth 26 = .ok (.aload_n 0, 1) := by decide +kernel
theorem dX8_readWorth_27 : decode cX8_readWorth 27 = .ok (.getfield 9, 3) := by decide +kernel
theorem dX8_readWorth_30 : decode cX8_readWorth 30 = .ok (.getfield 113, 3) := by decide +kernel
theorem dX8_readWorth_33 : decode cX8_readWorth 33 = .ok (.istore_n 1, 1) := by decide +kernel
theorem dX8_readWorth_34 : decode cX8_readWorth 34 = .ok (.aload_n 0, 1) := by decide +kernel
theorem dX8_readWorth_35 : decode cX8_readWorth 35 = .ok (.getfield 9, 3) := by decide +kernel
theorem dX8_readWorth_38 : decode cX8_readWorth 38 = .ok (.getfield 34, 3) := by decide +kernel
theorem dX8_readWorth_41 : decode cX8_readWorth 41 = .ok (.iconst 1, 1) := by decide +kernel
theorem dX8_readWorth_42 : decode cX8_readWorth 42 = .ok (.if_icmp .ne 37, 3) := by decide +kernel
theorem dX8_readWorth_45 : decode cX8_readWorth 45 = .ok (.aload_n 0, 1) := by decide +kernel
theorem dX8_readWorth_46 : decode cX8_readWorth 46 = .ok (.getfield 15, 3) := by decide +kernel
theorem dX8_readWorth_49 : decode cX8_readWorth 49 = .ok (.iload_n 1, 1) := by decide +kernel
theorem dX8_readWorth_50 : decode cX8_readWorth 50 = .ok (.aload_n 0, 1) := by decide +kernel
theorem dX8_readWorth_51 : decode cX8_readWorth 51 = .ok (.getfield 15, 3) := by decide +kernel
theorem dX8_readWorth_54 : decode cX8_readWorth 54 = .ok (.aload_n 0, 1) := by decide +kernel
theorem dX8_readWorth_55 : decode cX8_readWorth 55 = .ok (.getfield 9, 3) := by decide +kernel
theorem dX8_readWorth_58 : decode cX8_readWorth 58 = .ok (.getfield 102, 3) := by decide +kernel
theorem dX8_readWorth_61 : decode cX8_readWorth 61 = .ok (.invokevirtual 131, 3) := by decide +kernel
theorem dX8_readWorth_64 : decode cX8_readWorth 64 = .ok (.invokevirtual 158, 3) := by decide +kernel
theorem dX8_readWorth_67 : decode cX8_readWorth 67 = .ok (.ifCond .eq 12, 3) := by decide +kernel
theorem dX8_readWorth_70 : decode cX8_readWorth 70 = .ok (.aload_n 0, 1) := by decide +kernel
theorem dX8_readWorth_71 : decode cX8_readWorth 71 = .ok (.getfield 9, 3) := by decide +kernel
theorem dX8_readWorth_74 : decode cX8_readWorth 74 = .ok (.iconst 3, 1) := by decide +kernel
theorem dX8_readWorth_75 : decode cX8_readWorth 75 = .ok (.invokevirtual 92, 3) := by decide +kernel
theorem dX8_readWorth_78 : decode cX8_readWorth 78 = .ok (.ireturn, 1) := by decide +kernel
theorem dX8_readWorth_79 : decode cX8_readWorth 79 = .ok (.aload_n 0, 1) := by decide +kernel
theorem dX8_readWorth_80 : decode cX8_readWorth 80 = .ok (.getfield 9, 3) := by decide +kernel
theorem dX8_readWorth_83 : decode cX8_readWorth 83 = .ok (.aload_n 0, 1) := by decide +kernel
theorem dX8_readWorth_84 : decode cX8_readWorth 84 = .ok (.getfield 15, 3) := by decide +kernel
theorem dX8_readWorth_87 : decode cX8_readWorth 87 = .ok (.aload_n 0, 1) := by decide +kernel
theorem dX8_readWorth_88 : decode cX8_readWorth 88 = .ok (.getfield 9, 3) := by decide +kernel
theorem dX8_readWorth_91 : decode cX8_readWorth 91 = .ok (.getfield 102, 3) := by decide +kernel
theorem dX8_readWorth_94 : decode cX8_readWorth 94 = .ok (.invokevirtual 131, 3) := by decide +kernel
theorem dX8_readWorth_97 : decode cX8_readWorth 97 = .ok (.invokevirtual 138, 3) := by decide +kernel
theorem dX8_readWorth_100 : decode cX8_readWorth 100 = .ok (.ifCond .ne 5, 3) := by decide +kernel
theorem dX8_readWorth_103 : decode cX8_readWorth 103 = .ok (.iconst 0, 1) := by decide +kernel
theorem dX8_readWorth_104 : decode cX8_readWorth 104 = .ok (.ireturn, 1) := by decide +kernel
theorem dX8_readWorth_105 : decode cX8_readWorth 105 = .ok (.aload_n 0, 1) := by decide +kernel
theorem dX8_readWorth_106 : decode cX8_readWorth 106 = .ok (.getfield 9, 3) := by decide +kernel
theorem dX8_readWorth_109 : decode cX8_readWorth 109 = .ok (.getfield 113, 3) := by decide +kernel
theorem dX8_readWorth_112 : decode cX8_readWorth 112 = .ok (.istore_n 2, 1) := by decide +kernel
theorem dX8_readWorth_113 : decode cX8_readWorth 113 = .ok (.aload_n 0, 1) := by decide +kernel
theorem dX8_readWorth_114 : decode cX8_readWorth 114 = .ok (.getfield 9, 3) := by decide +kernel
theorem dX8_readWorth_117 : decode cX8_readWorth 117 = .ok (.iconst 1, 1) := by decide +kernel
theorem dX8_readWorth_118 : decode cX8_readWorth 118 = .ok (.bipush 99, 2) := by decide +kernel
theorem dX8_readWorth_120 : decode cX8_readWorth 120 = .ok (.invokevirtual 109, 3) := by decide +kernel
theorem dX8_readWorth_123 : decode cX8_readWorth 123 = .ok (.ifCond .eq 25, 3) := by decide +kernel
theorem dX8_readWorth_126 : decode cX8_readWorth 126 = .ok (.aload_n 0, 1) := by decide +kernel
theorem dX8_readWorth_127 : decode cX8_readWorth 127 = .ok (.getfield 15, 3) := by decide +kernel
theorem dX8_readWorth_130 : decode cX8_readWorth 130 = .ok (.iload_n 1, 1) := by decide +kernel
theorem dX8_readWorth_131 : decode cX8_readWorth 131 = .ok (.invokevirtual 141, 3) := by decide +kernel
theorem dX8_readWorth_134 : decode cX8_readWorth 134 = .ok (.ifCond .eq 14, 3) := by decide +kernel
theorem dX8_readWorth_137 : decode cX8_readWorth 137 = .ok (.aload_n 0, 1) := by decide +kernel
theorem dX8_readWorth_138 : decode cX8_readWorth 138 = .ok (.getfield 15, 3) := by decide +kernel
theorem dX8_readWorth_141 : decode cX8_readWorth 141 = .ok (.iload_n 2, 1) := by decide +kernel
theorem dX8_readWorth_142 : decode cX8_readWorth 142 = .ok (.invokevirtual 162, 3) := by decide +kernel
theorem dX8_readWorth_145 : decode cX8_readWorth 145 = .ok (.ifCond .ne 5, 3) := by decide +kernel
theorem dX8_readWorth_148 : decode cX8_readWorth 148 = .ok (.iconst 0, 1) := by decide +kernel
theorem dX8_readWorth_149 : decode cX8_readWorth 149 = .ok (.ireturn, 1) := by decide +kernel
theorem dX8_readWorth_150 : decode cX8_readWorth 150 = .ok (.aload_n 0, 1) := by decide +kernel
theorem dX8_readWorth_151 : decode cX8_readWorth 151 = .ok (.getfield 15, 3) := by decide +kernel
theorem dX8_readWorth_154 : decode cX8_readWorth 154 = .ok (.getfield 165, 3) := by decide +kernel
theorem dX8_readWorth_157 : decode cX8_readWorth 157 = .ok (.iload_n 1, 1) := by decide +kernel
theorem dX8_readWorth_158 : decode cX8_readWorth 158 = .ok (.bipush 9, 2) := by decide +kernel
theorem dX8_readWorth_160 : decode cX8_readWorth 160 = .ok (.imul, 1) := by decide +kernel
theorem dX8_readWorth_161 : decode cX8_readWorth 161 = .ok (.iload_n 2, 1) := by decide +kernel
theorem dX8_readWorth_162 : decode cX8_readWorth 162 = .ok (.iadd, 1) := by decide +kernel
theorem dX8_readWorth_163 : decode cX8_readWorth 163 = .ok (.aload_n 0, 1) := by decide +kernel
theorem dX8_readWorth_164 : decode cX8_readWorth 164 = .ok (.getfield 9, 3) := by decide +kernel
theorem dX8_readWorth_167 : decode cX8_readWorth 167 = .ok (.getfield 113, 3) := by decide +kernel
theorem dX8_readWorth_170 : decode cX8_readWorth 170 = .ok (.iastore, 1) := by decide +kernel
theorem dX8_readWorth_171 : decode cX8_readWorth 171 = .ok (.iconst 1, 1) := by decide +kernel
theorem dX8_readWorth_172 : decode cX8_readWorth 172 = .ok (.ireturn, 1) := by decide +kernel
theorem dX9_forget_0 : decode cX9_forget 0 = .ok (.aload_n 0, 1) := by decide +kernel
theorem dX9_forget_1 : decode cX9_forget 1 = .ok (.iconst 0, 1) := by decide +kernel
theorem dX9_forget_2 : decode cX9_forget 2 = .ok (.putfield 26, 3) := by decide +kernel
theorem dX9_forget_5 : decode cX9_forget 5 = .ok (.return_, 1) := by decide +kernel
theorem dX9_keep_0 : decode cX9_keep 0 = .ok (.aload_n 0, 1) := by decide +kernel
theorem dX9_keep_1 : decode cX9_keep 1 = .ok (.getfield 11, 3) := by decide +kernel
theorem dX9_keep_4 : decode cX9_keep 4 = .ok (.aload_n 0, 1) := by decide +kernel
theorem dX9_keep_5 : decode cX9_keep 5 = .ok (.getfield 18, 3) := by decide +kernel
theorem dX9_keep_8 : decode cX9_keep 8 = .ok (.aaload, 1) := by decide +kernel
theorem dX9_keep_9 : decode cX9_keep 9 = .ok (.aload_n 1, 1) := by decide +kernel
theorem dX9_keep_10 : decode cX9_keep 10 = .ok (.invokevirtual 22, 3) := by decide +kernel
theorem dX9_keep_13 : decode cX9_keep 13 = .ok (.aload_n 0, 1) := by decide +kernel
theorem dX9_keep_14 : decode cX9_keep 14 = .ok (.aload_n 0, 1) := by decide +kernel
theorem dX9_keep_15 : decode cX9_keep 15 = .ok (.getfield 18, 3) := by decide +kernel
theorem dX9_keep_18 : decode cX9_keep 18 = .ok (.iconst 1, 1) := by decide +kernel
theorem dX9_keep_19 : decode cX9_keep 19 = .ok (.iadd, 1) := by decide +kernel
theorem dX9_keep_20 : decode cX9_keep 20 = .ok (.iconst 4, 1) := by decide +kernel
theorem dX9_keep_21 : decode cX9_keep 21 = .ok (.irem, 1) := by decide +kernel
theorem dX9_keep_22 : decode cX9_keep 22 = .ok (.putfield 18, 3) := by decide +kernel
theorem dX9_keep_25 : decode cX9_keep 25 = .ok (.aload_n 0, 1) := by decide +kernel
theorem dX9_keep_26 : decode cX9_keep 26 = .ok (.aload_n 0, 1) := by decide +kernel
theorem dX9_keep_27 : decode cX9_keep 27 = .ok (.getfield 26, 3) := by decide +kernel
theorem dX9_keep_30 : decode cX9_keep 30 = .ok (.iconst 1, 1) := by decide +kernel
theorem dX9_keep_31 : decode cX9_keep 31 = .ok (.iadd, 1) := by decide +kernel
theorem dX9_keep_32 : decode cX9_keep 32 = .ok (.iconst 4, 1) := by decide +kernel
theorem dX9_keep_33 : decode cX9_keep 33 = .ok (.invokestatic 29, 3) := by decide +kernel
theorem dX9_keep_36 : decode cX9_keep 36 = .ok (.putfield 26, 3) := by decide +kernel
theorem dX9_keep_39 : decode cX9_keep 39 = .ok (.return_, 1) := by decide +kernel
theorem dX9_takeBack_0 : decode cX9_takeBack 0 = .ok (.aload_n 0, 1) := by decide +kernel
theorem dX9_takeBack_1 : decode cX9_takeBack 1 = .ok (.getfield 26, 3) := by decide +kernel
theorem dX9_takeBack_4 : decode cX9_takeBack 4 = .ok (.ifCond .ne 5, 3) := by decide +kernel
theorem dX9_takeBack_7 : decode cX9_takeBack 7 = .ok (.iconst 0, 1) := by decide +kernel
theorem dX9_takeBack_8 : decode cX9_takeBack 8 = .ok (.ireturn, 1) := by decide +kernel
theorem dX9_takeBack_9 : decode cX9_takeBack 9 = .ok (.aload_n 0, 1) := by decide +kernel
theorem dX9_takeBack_10 : decode cX9_takeBack 10 = .ok (.aload_n 0, 1) := by decide +kernel
theorem dX9_takeBack_11 : decode cX9_takeBack 11 = .ok (.getfield 18, 3) := by decide +kernel
theorem dX9_takeBack_14 : decode cX9_takeBack 14 = .ok (.iconst 4, 1) := by decide +kernel
theorem dX9_takeBack_15 : decode cX9_takeBack 15 = .ok (.iadd, 1) := by decide +kernel
theorem dX9_takeBack_16 : decode cX9_takeBack 16 = .ok (.iconst 1, 1) := by decide +kernel
theorem dX9_takeBack_17 : decode cX9_takeBack 17 = .ok (.isub, 1) := by decide +kernel
theorem dX9_takeBack_18 : decode cX9_takeBack 18 = .ok (.iconst 4, 1) := by decide +kernel
theorem dX9_takeBack_19 : decode cX9_takeBack 19 = .ok (.irem, 1) := by decide +kernel
theorem dX9_takeBack_20 : decode cX9_takeBack 20 = .ok (.putfield 18, 3) := by decide +kernel
theorem dX9_takeBack_23 : decode cX9_takeBack 23 = .ok (.aload_n 0, 1) := by decide +kernel
theorem dX9_takeBack_24 : decode cX9_takeBack 24 = .ok (.dup, 1) := by decide +kernel
theorem dX9_takeBack_25 : decode cX9_takeBack 25 = .ok (.getfield 26, 3) := by decide +kernel
theorem dX9_takeBack_28 : decode cX9_takeBack 28 = .ok (.iconst 1, 1) := by decide +kernel
theorem dX9_takeBack_29 : decode cX9_takeBack 29 = .ok (.isub, 1) := by decide +kernel
theorem dX9_takeBack_30 : decode cX9_takeBack 30 = .ok (.putfield 26, 3) := by decide +kernel
theorem dX9_takeBack_33 : decode cX9_takeBack 33 = .ok (.aload_n 1, 1) := by decide +kernel
theorem dX9_takeBack_34 : decode cX9_takeBack 34 = .ok (.aload_n 0, 1) := by decide +kernel
theorem dX9_takeBack_35 : decode cX9_takeBack 35 = .ok (.getfield 11, 3) := by decide +kernel
theorem dX9_takeBack_38 : decode cX9_takeBack 38 = .ok (.aload_n 0, 1) := by decide +kernel
theorem dX9_takeBack_39 : decode cX9_takeBack 39 = .ok (.getfield 18, 3) := by decide +kernel
theorem dX9_takeBack_42 : decode cX9_takeBack 42 = .ok (.aaload, 1) := by decide +kernel
theorem dX9_takeBack_43 : decode cX9_takeBack 43 = .ok (.invokevirtual 22, 3) := by decide +kernel
theorem dX9_takeBack_46 : decode cX9_takeBack 46 = .ok (.iconst 1, 1) := by decide +kernel
theorem dX9_takeBack_47 : decode cX9_takeBack 47 = .ok (.ireturn, 1) := by decide +kernel
