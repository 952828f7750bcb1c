theorem dX12_waits_11 : decode cX12_waits 11 = .ok (.sipush 151, 3) := by decide +kernel
theorem dX12_waits_14 : decode cX12_waits 14 = .ok (.iaload, 1) := by decide +kernel
theorem dX12_waits_15 : decode cX12_waits 15 = .ok (.iadd, 1) := by decide +kernel
theorem dX12_waits_16 : decode cX12_waits 16 = .ok (.iload_n 1, 1) := by decide +kernel
theorem dX12_waits_17 : decode cX12_waits 17 = .ok (.iastore, 1) := by decide +kernel
theorem dX12_waits_18 : decode cX12_waits 18 = .ok (.aload_n 0, 1) := by decide +kernel
theorem dX12_waits_19 : decode cX12_waits 19 = .ok (.getfield 33, 3) := by decide +kernel
theorem dX12_waits_22 : decode cX12_waits 22 = .ok (.sipush 151, 3) := by decide +kernel
theorem dX12_waits_25 : decode cX12_waits 25 = .ok (.dup2, 1) := by decide +kernel
theorem dX12_waits_26 : decode cX12_waits 26 = .ok (.iaload, 1) := by decide +kernel
theorem dX12_waits_27 : decode cX12_waits 27 = .ok (.iconst 1, 1) := by decide +kernel
theorem dX12_waits_28 : decode cX12_waits 28 = .ok (.iadd, 1) := by decide +kernel
theorem dX12_waits_29 : decode cX12_waits 29 = .ok (.iastore, 1) := by decide +kernel
theorem dX12_waits_30 : decode cX12_waits 30 = .ok (.return_, 1) := by decide +kernel
theorem dX12_whyFlee_0 : decode cX12_whyFlee 0 = .ok (.aload_n 0, 1) := by decide +kernel
theorem dX12_whyFlee_1 : decode cX12_whyFlee 1 = .ok (.iload_n 1, 1) := by decide +kernel
theorem dX12_whyFlee_2 : decode cX12_whyFlee 2 = .ok (.invokevirtual 256, 3) := by decide +kernel
theorem dX12_whyFlee_5 : decode cX12_whyFlee 5 = .ok (.ifCond .eq 7, 3) := by decide +kernel
theorem dX12_whyFlee_8 : decode cX12_whyFlee 8 = .ok (.iconst 1, 1) := by decide +kernel
theorem dX12_whyFlee_9 : decode cX12_whyFlee 9 = .ok (.goto 33, 3) := by decide +kernel
theorem dX12_whyFlee_12 : decode cX12_whyFlee 12 = .ok (.aload_n 0, 1) := by decide +kernel
theorem dX12_whyFlee_13 : decode cX12_whyFlee 13 = .ok (.getfield 33, 3) := by decide +kernel
theorem dX12_whyFlee_16 : decode cX12_whyFlee 16 = .ok (.sipush 161, 3) := by decide +kernel
theorem dX12_whyFlee_19 : decode cX12_whyFlee 19 = .ok (.iload_n 1, 1) := by decide +kernel
theorem dX12_whyFlee_20 : decode cX12_whyFlee 20 = .ok (.iadd, 1) := by decide +kernel
theorem dX12_whyFlee_21 : decode cX12_whyFlee 21 = .ok (.iaload, 1) := by decide +kernel
theorem dX12_whyFlee_22 : decode cX12_whyFlee 22 = .ok (.ifCond .ne 7, 3) := by decide +kernel
theorem dX12_whyFlee_25 : decode cX12_whyFlee 25 = .ok (.iconst 2, 1) := by decide +kernel
theorem dX12_whyFlee_26 : decode cX12_whyFlee 26 = .ok (.goto 16, 3) := by decide +kernel
theorem dX12_whyFlee_29 : decode cX12_whyFlee 29 = .ok (.aload_n 0, 1) := by decide +kernel
theorem dX12_whyFlee_30 : decode cX12_whyFlee 30 = .ok (.iload_n 1, 1) := by decide +kernel
theorem dX12_whyFlee_31 : decode cX12_whyFlee 31 = .ok (.invokevirtual 274, 3) := by decide +kernel
theorem dX12_whyFlee_34 : decode cX12_whyFlee 34 = .ok (.ifCond .eq 7, 3) := by decide +kernel
theorem dX12_whyFlee_37 : decode cX12_whyFlee 37 = .ok (.iconst 3, 1) := by decide +kernel
theorem dX12_whyFlee_38 : decode cX12_whyFlee 38 = .ok (.goto 4, 3) := by decide +kernel
theorem dX12_whyFlee_41 : decode cX12_whyFlee 41 = .ok (.iconst 0, 1) := by decide +kernel
theorem dX12_whyFlee_42 : decode cX12_whyFlee 42 = .ok (.ireturn, 1) := by decide +kernel
theorem dX12_whyLine_0 : decode cX12_whyLine 0 = .ok (.iload_n 1, 1) := by decide +kernel
theorem dX12_whyLine_1 : decode cX12_whyLine 1 = .ok (.iconst 1, 1) := by decide +kernel
theorem dX12_whyLine_2 : decode cX12_whyLine 2 = .ok (.if_icmp .eq 8, 3) := by decide +kernel
theorem dX12_whyLine_5 : decode cX12_whyLine 5 = .ok (.iload_n 1, 1) := by decide +kernel
theorem dX12_whyLine_6 : decode cX12_whyLine 6 = .ok (.iconst 2, 1) := by decide +kernel
theorem dX12_whyLine_7 : decode cX12_whyLine 7 = .ok (.if_icmp .ne 11, 3) := by decide +kernel
theorem dX12_whyLine_10 : decode cX12_whyLine 10 = .ok (.iload_n 2, 1) := by decide +kernel
theorem dX12_whyLine_11 : decode cX12_whyLine 11 = .ok (.iload_n 3, 1) := by decide +kernel
theorem dX12_whyLine_12 : decode cX12_whyLine 12 = .ok (.if_icmp .ne 6, 3) := by decide +kernel
theorem dX12_whyLine_15 : decode cX12_whyLine 15 = .ok (.bipush 9, 2) := by decide +kernel
theorem dX12_whyLine_17 : decode cX12_whyLine 17 = .ok (.ireturn, 1) := by decide +kernel
theorem dX12_whyLine_18 : decode cX12_whyLine 18 = .ok (.iload_n 1, 1) := by decide +kernel
theorem dX12_whyLine_19 : decode cX12_whyLine 19 = .ok (.tableswitch 85 0 5 #[37, 44, 51, 58, 72, 78], 37) := by decide +kernel
theorem dX12_whyLine_56 : decode cX12_whyLine 56 = .ok (.aload_n 0, 1) := by decide +kernel
theorem dX12_whyLine_57 : decode cX12_whyLine 57 = .ok (.iload_n 2, 1) := by decide +kernel
theorem dX12_whyLine_58 : decode cX12_whyLine 58 = .ok (.iload_n 3, 1) := by decide +kernel
theorem dX12_whyLine_59 : decode cX12_whyLine 59 = .ok (.invokevirtual 277, 3) := by decide +kernel
theorem dX12_whyLine_62 : decode cX12_whyLine 62 = .ok (.ireturn, 1) := by decide +kernel
theorem dX12_whyLine_63 : decode cX12_whyLine 63 = .ok (.aload_n 0, 1) := by decide +kernel
theorem dX12_whyLine_64 : decode cX12_whyLine 64 = .ok (.iload_n 2, 1) := by decide +kernel
theorem dX12_whyLine_65 : decode cX12_whyLine 65 = .ok (.iload_n 3, 1) := by decide +kernel
theorem dX12_whyLine_66 : decode cX12_whyLine 66 = .ok (.invokevirtual 290, 3) := by decide +kernel
theorem dX12_whyLine_69 : decode cX12_whyLine 69 = .ok (.ireturn, 1) := by decide +kernel
theorem dX12_whyLine_70 : decode cX12_whyLine 70 = .ok (.aload_n 0, 1) := by decide +kernel
theorem dX12_whyLine_71 : decode cX12_whyLine 71 = .ok (.iload_n 2, 1) := by decide +kernel
theorem dX12_whyLine_72 : decode cX12_whyLine 72 = .ok (.iload_n 3, 1) := by decide +kernel
theorem dX12_whyLine_73 : decode cX12_whyLine 73 = .ok (.invokevirtual 296, 3) := by decide +kernel
theorem dX12_whyLine_76 : decode cX12_whyLine 76 = .ok (.ireturn, 1) := by decide +kernel
theorem dX12_whyLine_77 : decode cX12_whyLine 77 = .ok (.aload_n 0, 1) := by decide +kernel
theorem dX12_whyLine_78 : decode cX12_whyLine 78 = .ok (.iload_n 2, 1) := by decide +kernel
theorem dX12_whyLine_79 : decode cX12_whyLine 79 = .ok (.invokevirtual 256, 3) := by decide +kernel
theorem dX12_whyLine_82 : decode cX12_whyLine 82 = .ok (.ifCond .eq 7, 3) := by decide +kernel
theorem dX12_whyLine_85 : decode cX12_whyLine 85 = .ok (.iconst 1, 1) := by decide +kernel
theorem dX12_whyLine_86 : decode cX12_whyLine 86 = .ok (.goto 4, 3) := by decide +kernel
theorem dX12_whyLine_89 : decode cX12_whyLine 89 = .ok (.iconst 0, 1) := by decide +kernel
theorem dX12_whyLine_90 : decode cX12_whyLine 90 = .ok (.ireturn, 1) := by decide +kernel
theorem dX12_whyLine_91 : decode cX12_whyLine 91 = .ok (.aload_n 0, 1) := by decide +kernel
theorem dX12_whyLine_92 : decode cX12_whyLine 92 = .ok (.iload_n 2, 1) := by decide +kernel
theorem dX12_whyLine_93 : decode cX12_whyLine 93 = .ok (.invokevirtual 305, 3) := by decide +kernel
theorem dX12_whyLine_96 : decode cX12_whyLine 96 = .ok (.ireturn, 1) := by decide +kernel
theorem dX12_whyLine_97 : decode cX12_whyLine 97 = .ok (.aload_n 0, 1) := by decide +kernel
theorem dX12_whyLine_98 : decode cX12_whyLine 98 = .ok (.iload_n 2, 1) := by decide +kernel
theorem dX12_whyLine_99 : decode cX12_whyLine 99 = .ok (.iload_n 3, 1) := by decide +kernel
theorem dX12_whyLine_100 : decode cX12_whyLine 100 = .ok (.invokevirtual 311, 3) := by decide +kernel
theorem dX12_whyLine_103 : decode cX12_whyLine 103 = .ok (.ireturn, 1) := by decide +kernel
theorem dX12_whyLine_104 : decode cX12_whyLine 104 = .ok (.aload_n 0, 1) := by decide +kernel
theorem dX12_whyLine_105 : decode cX12_whyLine 105 = .ok (.getfield 33, 3) := by decide +kernel
theorem dX12_whyLine_108 : decode cX12_whyLine 108 = .ok (.sipush 146, 3) := by decide +kernel
theorem dX12_whyLine_111 : decode cX12_whyLine 111 = .ok (.iaload, 1) := by decide +kernel
theorem dX12_whyLine_112 : decode cX12_whyLine 112 = .ok (.iload_n 2, 1) := by decide +kernel
theorem dX12_whyLine_113 : decode cX12_whyLine 113 = .ok (.iadd, 1) := by decide +kernel
theorem dX12_whyLine_114 : decode cX12_whyLine 114 = .ok (.sipush 200, 3) := by decide +kernel
theorem dX12_whyLine_117 : decode cX12_whyLine 117 = .ok (.if_icmp .le 7, 3) := by decide +kernel
theorem dX12_whyLine_120 : decode cX12_whyLine 120 = .ok (.iconst 1, 1) := by decide +kernel
theorem dX12_whyLine_121 : decode cX12_whyLine 121 = .ok (.goto 4, 3) := by decide +kernel
theorem dX12_whyLine_124 : decode cX12_whyLine 124 = .ok (.iconst 0, 1) := by decide +kernel
theorem dX12_whyLine_125 : decode cX12_whyLine 125 = .ok (.ireturn, 1) := by decide +kernel
theorem dX12_whyPay_0 : decode cX12_whyPay 0 = .ok (.aload_n 0, 1) := by decide +kernel
theorem dX12_whyPay_1 : decode cX12_whyPay 1 = .ok (.iload_n 1, 1) := by decide +kernel
theorem dX12_whyPay_2 : decode cX12_whyPay 2 = .ok (.invokevirtual 256, 3) := by decide +kernel
theorem dX12_whyPay_5 : decode cX12_whyPay 5 = .ok (.ifCond .eq 5, 3) := by decide +kernel
theorem dX12_whyPay_8 : decode cX12_whyPay 8 = .ok (.iconst 1, 1) := by decide +kernel
theorem dX12_whyPay_9 : decode cX12_whyPay 9 = .ok (.ireturn, 1) := by decide +kernel
theorem dX12_whyPay_10 : decode cX12_whyPay 10 = .ok (.aload_n 0, 1) := by decide +kernel
theorem dX12_whyPay_11 : decode cX12_whyPay 11 = .ok (.getfield 33, 3) := by decide +kernel
theorem dX12_whyPay_14 : decode cX12_whyPay 14 = .ok (.sipush 161, 3) := by decide +kernel
theorem dX12_whyPay_17 : decode cX12_whyPay 17 = .ok (.iload_n 1, 1) := by decide +kernel
theorem dX12_whyPay_18 : decode cX12_whyPay 18 = .ok (.iadd, 1) := by decide +kernel
theorem dX12_whyPay_19 : decode cX12_whyPay 19 = .ok (.iaload, 1) := by decide +kernel
theorem dX12_whyPay_20 : decode cX12_whyPay 20 = .ok (.ifCond .ne 5, 3) := by decide +kernel
theorem dX12_whyPay_23 : decode cX12_whyPay 23 = .ok (.iconst 2, 1) := by decide +kernel
theorem dX12_whyPay_24 : decode cX12_whyPay 24 = .ok (.ireturn, 1) := by decide +kernel
theorem dX12_whyPay_25 : decode cX12_whyPay 25 = .ok (.iload_n 2, 1) := by decide +kernel
theorem dX12_whyPay_26 : decode cX12_whyPay 26 = .ok (.aload_n 0, 1) := by decide +kernel
theorem dX12_whyPay_27 : decode cX12_whyPay 27 = .ok (.getfield 33, 3) := by decide +kernel
theorem dX12_whyPay_30 : decode cX12_whyPay 30 = .ok (.sipush 188, 3) := by decide +kernel
theorem dX12_whyPay_33 : decode cX12_whyPay 33 = .ok (.aload_n 0, 1) := by decide +kernel
theorem dX12_whyPay_34 : decode cX12_whyPay 34 = .ok (.getfield 33, 3) := by decide +kernel
theorem dX12_whyPay_37 : decode cX12_whyPay 37 = .ok (.sipush 161, 3) := by decide +kernel
theorem dX12_whyPay_40 : decode cX12_whyPay 40 = .ok (.iload_n 1, 1) := by decide +kernel
theorem dX12_whyPay_41 : decode cX12_whyPay 41 = .ok (.iadd, 1) := by decide +kernel
theorem dX12_whyPay_42 : decode cX12_whyPay 42 = .ok (.iaload, 1) := by decide +kernel
theorem dX12_whyPay_43 : decode cX12_whyPay 43 = .ok (.iadd, 1) := by decide +kernel
theorem dX12_whyPay_44 : decode cX12_whyPay 44 = .ok (.iconst 1, 1) := by decide +kernel
theorem dX12_whyPay_45 : decode cX12_whyPay 45 = .ok (.isub, 1) := by decide +kernel
theorem dX12_whyPay_46 : decode cX12_whyPay 46 = .ok (.iaload, 1) := by decide +kernel
theorem dX12_whyPay_47 : decode cX12_whyPay 47 = .ok (.if_icmp .le 7, 3) := by decide +kernel
theorem dX12_whyPay_50 : decode cX12_whyPay 50 = .ok (.iconst 3, 1) := by decide +kernel
theorem dX12_whyPay_51 : decode cX12_whyPay 51 = .ok (.goto 22, 3) := by decide +kernel
theorem dX12_whyPay_54 : decode cX12_whyPay 54 = .ok (.iload_n 2, 1) := by decide +kernel
theorem dX12_whyPay_55 : decode cX12_whyPay 55 = .ok (.aload_n 0, 1) := by decide +kernel
theorem dX12_whyPay_56 : decode cX12_whyPay 56 = .ok (.getfield 33, 3) := by decide +kernel
theorem dX12_whyPay_59 : decode cX12_whyPay 59 = .ok (.sipush 170, 3) := by decide +kernel
theorem dX12_whyPay_62 : decode cX12_whyPay 62 = .ok (.iload_n 1, 1) := by decide +kernel
theorem dX12_whyPay_63 : decode cX12_whyPay 63 = .ok (.iadd, 1) := by decide +kernel
theorem dX12_whyPay_64 : decode cX12_whyPay 64 = .ok (.iaload, 1) := by decide +kernel
theorem dX12_whyPay_65 : decode cX12_whyPay 65 = .ok (.if_icmp .le 7, 3) := by decide +kernel
theorem dX12_whyPay_68 : decode cX12_whyPay 68 = .ok (.iconst 4, 1) := by decide +kernel
theorem dX12_whyPay_69 : decode cX12_whyPay 69 = .ok (.goto 4, 3) := by decide +kernel
theorem dX12_whyPay_72 : decode cX12_whyPay 72 = .ok (.iconst 0, 1) := by decide +kernel
theorem dX12_whyPay_73 : decode cX12_whyPay 73 = .ok (.ireturn, 1) := by decide +kernel
theorem dX12_whySell_0 : decode cX12_whySell 0 = .ok (.aload_n 0, 1) := by decide +kernel
theorem dX12_whySell_1 : decode cX12_whySell 1 = .ok (.iload_n 1, 1) := by decide +kernel
theorem dX12_whySell_2 : decode cX12_whySell 2 = .ok (.invokevirtual 256, 3) := by decide +kernel
theorem dX12_whySell_5 : decode cX12_whySell 5 = .ok (.ifCond .ne 11, 3) := by decide +kernel
theorem dX12_whySell_8 : decode cX12_whySell 8 = .ok (.aload_n 0, 1) := by decide +kernel
theorem dX12_whySell_9 : decode cX12_whySell 9 = .ok (.iload_n 2, 1) := by decide +kernel
theorem dX12_whySell_10 : decode cX12_whySell 10 = .ok (.invokevirtual 256, 3) := by decide +kernel
theorem dX12_whySell_13 : decode cX12_whySell 13 = .ok (.ifCond .eq 5, 3) := by decide +kernel
theorem dX12_whySell_16 : decode cX12_whySell 16 = .ok (.iconst 1, 1) := by decide +kernel
theorem dX12_whySell_17 : decode cX12_whySell 17 = .ok (.ireturn, 1) := by decide +kernel
theorem dX12_whySell_18 : decode cX12_whySell 18 = .ok (.aload_n 0, 1) := by decide +kernel
theorem dX12_whySell_19 : decode cX12_whySell 19 = .ok (.getfield 33, 3) := by decide +kernel
theorem dX12_whySell_22 : decode cX12_whySell 22 = .ok (.sipush 161, 3) := by decide +kernel
theorem dX12_whySell_25 : decode cX12_whySell 25 = .ok (.iload_n 1, 1) := by decide +kernel
theorem dX12_whySell_26 : decode cX12_whySell 26 = .ok (.iadd, 1) := by decide +kernel
theorem dX12_whySell_27 : decode cX12_whySell 27 = .ok (.iaload, 1) := by decide +kernel
theorem dX12_whySell_28 : decode cX12_whySell 28 = .ok (.ifCond .eq 16, 3) := by decide +kernel
theorem dX12_whySell_31 : decode cX12_whySell 31 = .ok (.aload_n 0, 1) := by decide +kernel
theorem dX12_whySell_32 : decode cX12_whySell 32 = .ok (.getfield 33, 3) := by decide +kernel
theorem dX12_whySell_35 : decode cX12_whySell 35 = .ok (.sipush 161, 3) := by decide +kernel
theorem dX12_whySell_38 : decode cX12_whySell 38 = .ok (.iload_n 2, 1) := by decide +kernel
theorem dX12_whySell_39 : decode cX12_whySell 39 = .ok (.iadd, 1) := by decide +kernel
theorem dX12_whySell_40 : decode cX12_whySell 40 = .ok (.iaload, 1) := by decide +kernel
theorem dX12_whySell_41 : decode cX12_whySell 41 = .ok (.ifCond .le 5, 3) := by decide +kernel
theorem dX12_whySell_44 : decode cX12_whySell 44 = .ok (.iconst 2, 1) := by decide +kernel
theorem dX12_whySell_45 : decode cX12_whySell 45 = .ok (.ireturn, 1) := by decide +kernel
theorem dX12_whySell_46 : decode cX12_whySell 46 = .ok (.aload_n 0, 1) := by decide +kernel
theorem dX12_whySell_47 : decode cX12_whySell 47 = .ok (.iload_n 1, 1) := by decide +kernel
theorem dX12_whySell_48 : decode cX12_whySell 48 = .ok (.invokevirtual 274, 3) := by decide +kernel
theorem dX12_whySell_51 : decode cX12_whySell 51 = .ok (.ifCond .ne 11, 3) := by decide +kernel
theorem dX12_whySell_54 : decode cX12_whySell 54 = .ok (.aload_n 0, 1) := by decide +kernel
theorem dX12_whySell_55 : decode cX12_whySell 55 = .ok (.iload_n 2, 1) := by decide +kernel
theorem dX12_whySell_56 : decode cX12_whySell 56 = .ok (.invokevirtual 274, 3) := by decide +kernel
theorem dX12_whySell_59 : decode cX12_whySell 59 = .ok (.ifCond .eq 7, 3) := by decide +kernel
theorem dX12_whySell_62 : decode cX12_whySell 62 = .ok (.iconst 3, 1) := by decide +kernel
theorem dX12_whySell_63 : decode cX12_whySell 63 = .ok (.goto 40, 3) := by decide +kernel
theorem dX12_whySell_66 : decode cX12_whySell 66 = .ok (.aload_n 0, 1) := by decide +kernel
theorem dX12_whySell_67 : decode cX12_whySell 67 = .ok (.getfield 33, 3) := by decide +kernel
theorem dX12_whySell_70 : decode cX12_whySell 70 = .ok (.sipush 170, 3) := by decide +kernel
theorem dX12_whySell_73 : decode cX12_whySell 73 = .ok (.iload_n 2, 1) := by decide +kernel
theorem dX12_whySell_74 : decode cX12_whySell 74 = .ok (.iadd, 1) := by decide +kernel
theorem dX12_whySell_75 : decode cX12_whySell 75 = .ok (.iaload, 1) := by decide +kernel
theorem dX12_whySell_76 : decode cX12_whySell 76 = .ok (.aload_n 0, 1) := by decide +kernel
theorem dX12_whySell_77 : decode cX12_whySell 77 = .ok (.getfield 33, 3) := by decide +kernel
theorem dX12_whySell_80 : decode cX12_whySell 80 = .ok (.iconst 2, 1) := by decide +kernel
theorem dX12_whySell_81 : decode cX12_whySell 81 = .ok (.aload_n 0, 1) := by decide +kernel
theorem dX12_whySell_82 : decode cX12_whySell 82 = .ok (.getfield 33, 3) := by decide +kernel
theorem dX12_whySell_85 : decode cX12_whySell 85 = .ok (.sipush 161, 3) := by decide +kernel
theorem dX12_whySell_88 : decode cX12_whySell 88 = .ok (.iload_n 1, 1) := by decide +kernel
theorem dX12_whySell_89 : decode cX12_whySell 89 = .ok (.iadd, 1) := by decide +kernel
theorem dX12_whySell_90 : decode cX12_whySell 90 = .ok (.iaload, 1) := by decide +kernel
theorem dX12_whySell_91 : decode cX12_whySell 91 = .ok (.iadd, 1) := by decide +kernel
theorem dX12_whySell_92 : decode cX12_whySell 92 = .ok (.iconst 1, 1) := by decide +kernel
theorem dX12_whySell_93 : decode cX12_whySell 93 = .ok (.isub, 1) := by decide +kernel
theorem dX12_whySell_94 : decode cX12_whySell 94 = .ok (.iaload, 1) := by decide +kernel
theorem dX12_whySell_95 : decode cX12_whySell 95 = .ok (.if_icmp .ge 7, 3) := by decide +kernel
theorem dX12_whySell_98 : decode cX12_whySell 98 = .ok (.iconst 4, 1) := by decide +kernel
theorem dX12_whySell_99 : decode cX12_whySell 99 = .ok (.goto 4, 3) := by decide +kernel
theorem dX12_whySell_102 : decode cX12_whySell 102 = .ok (.iconst 0, 1) := by decide +kernel
theorem dX12_whySell_103 : decode cX12_whySell 103 = .ok (.ireturn, 1) := by decide +kernel
theorem dX12_whySwap_0 : decode cX12_whySwap 0 = .ok (.aload_n 0, 1) := by decide +kernel
theorem dX12_whySwap_1 : decode cX12_whySwap 1 = .ok (.iload_n 1, 1) := by decide +kernel
theorem dX12_whySwap_2 : decode cX12_whySwap 2 = .ok (.invokevirtual 256, 3) := by decide +kernel
theorem dX12_whySwap_5 : decode cX12_whySwap 5 = .ok (.ifCond .ne 11, 3) := by decide +kernel
theorem dX12_whySwap_8 : decode cX12_whySwap 8 = .ok (.aload_n 0, 1) := by decide +kernel
theorem dX12_whySwap_9 : decode cX12_whySwap 9 = .ok (.iload_n 2, 1) := by decide +kernel
theorem dX12_whySwap_10 : decode cX12_whySwap 10 = .ok (.invokevirtual 256, 3) := by decide +kernel
theorem dX12_whySwap_13 : decode cX12_whySwap 13 = .ok (.ifCond .eq 7, 3) := by decide +kernel
theorem dX12_whySwap_16 : decode cX12_whySwap 16 = .ok (.iconst 1, 1) := by decide +kernel
theorem dX12_whySwap_17 : decode cX12_whySwap 17 = .ok (.goto 54, 3) := by decide +kernel
theorem dX12_whySwap_20 : decode cX12_whySwap 20 = .ok (.aload_n 0, 1) := by decide +kernel
theorem dX12_whySwap_21 : decode cX12_whySwap 21 = .ok (.getfield 33, 3) := by decide +kernel
theorem dX12_whySwap_24 : decode cX12_whySwap 24 = .ok (.sipush 161, 3) := by decide +kernel
theorem dX12_whySwap_27 : decode cX12_whySwap 27 = .ok (.iload_n 1, 1) := by decide +kernel
theorem dX12_whySwap_28 : decode cX12_whySwap 28 = .ok (.iadd, 1) := by decide +kernel
theorem dX12_whySwap_29 : decode cX12_whySwap 29 = .ok (.iaload, 1) := by decide +kernel
theorem dX12_whySwap_30 : decode cX12_whySwap 30 = .ok (.ifCond .eq 16, 3) := by decide +kernel
theorem dX12_whySwap_33 : decode cX12_whySwap 33 = .ok (.aload_n 0, 1) := by decide +kernel
theorem dX12_whySwap_34 : decode cX12_whySwap 34 = .ok (.getfield 33, 3) := by decide +kernel
theorem dX12_whySwap_37 : decode cX12_whySwap 37 = .ok (.sipush 161, 3) := by decide +kernel
theorem dX12_whySwap_40 : decode cX12_whySwap 40 = .ok (.iload_n 2, 1) := by decide +kernel
theorem dX12_whySwap_41 : decode cX12_whySwap 41 = .ok (.iadd, 1) := by decide +kernel
theorem dX12_whySwap_42 : decode cX12_whySwap 42 = .ok (.iaload, 1) := by decide +kernel
theorem dX12_whySwap_43 : decode cX12_whySwap 43 = .ok (.ifCond .ne 7, 3) := by decide +kernel
theorem dX12_whySwap_46 : decode cX12_whySwap 46 = .ok (.iconst 2, 1) := by decide +kernel
theorem dX12_whySwap_47 : decode cX12_whySwap 47 = .ok (.goto 24, 3) := by decide +kernel
theorem dX12_whySwap_50 : decode cX12_whySwap 50 = .ok (.aload_n 0, 1) := by decide +kernel
theorem dX12_whySwap_51 : decode cX12_whySwap 51 = .ok (.iload_n 1, 1) := by decide +kernel
theorem dX12_whySwap_52 : decode cX12_whySwap 52 = .ok (.invokevirtual 274, 3) := by decide +kernel
theorem dX12_whySwap_55 : decode cX12_whySwap 55 = .ok (.ifCond .ne 11, 3) := by decide +kernel
theorem dX12_whySwap_58 : decode cX12_whySwap 58 = .ok (.aload_n 0, 1) := by decide +kernel
theorem dX12_whySwap_59 : decode cX12_whySwap 59 = .ok (.iload_n 2, 1) := by decide +kernel
theorem dX12_whySwap_60 : decode cX12_whySwap 60 = .ok (.invokevirtual 274, 3) := by decide +kernel
theorem dX12_whySwap_63 : decode cX12_whySwap 63 = .ok (.ifCond .eq 7, 3) := by decide +kernel
theorem dX12_whySwap_66 : decode cX12_whySwap 66 = .ok (.iconst 3, 1) := by decide +kernel
theorem dX12_whySwap_67 : decode cX12_whySwap 67 = .ok (.goto 4, 3) := by decide +kernel
theorem dX12_whySwap_70 : decode cX12_whySwap 70 = .ok (.iconst 0, 1) := by decide +kernel
theorem dX12_whySwap_71 : decode cX12_whySwap 71 = .ok (.ireturn, 1) := by decide +kernel
theorem dX12_whyTake_0 : decode cX12_whyTake 0 = .ok (.aload_n 0, 1) := by decide +kernel
theorem dX12_whyTake_1 : decode cX12_whyTake 1 = .ok (.iload_n 1, 1) := by decide +kernel
theorem dX12_whyTake_2 : decode cX12_whyTake 2 = .ok (.invokevirtual 256, 3) := by decide +kernel
theorem dX12_whyTake_5 : decode cX12_whyTake 5 = .ok (.ifCond .eq 5, 3) := by decide +kernel
theorem dX12_whyTake_8 : decode cX12_whyTake 8 = .ok (.iconst 1, 1) := by decide +kernel
theorem dX12_whyTake_9 : decode cX12_whyTake 9 = .ok (.ireturn, 1) := by decide +kernel
theorem dX12_whyTake_10 : decode cX12_whyTake 10 = .ok (.aload_n 0, 1) := by decide +kernel
theorem dX12_whyTake_11 : decode cX12_whyTake 11 = .ok (.getfield 33, 3) := by decide +kernel
theorem dX12_whyTake_14 : decode cX12_whyTake 14 = .ok (.sipush 161, 3) := by decide +kernel
theorem dX12_whyTake_17 : decode cX12_whyTake 17 = .ok (.iload_n 1, 1) := by decide +kernel
theorem dX12_whyTake_18 : decode cX12_whyTake 18 = .ok (.iadd, 1) := by decide +kernel
theorem dX12_whyTake_19 : decode cX12_whyTake 19 = .ok (.iaload, 1) := by decide +kernel
theorem dX12_whyTake_20 : decode cX12_whyTake 20 = .ok (.ifCond .le 5, 3) := by decide +kernel
theorem dX12_whyTake_23 : decode cX12_whyTake 23 = .ok (.iconst 2, 1) := by decide +kernel
theorem dX12_whyTake_24 : decode cX12_whyTake 24 = .ok (.ireturn, 1) := by decide +kernel
theorem dX12_whyTake_25 : decode cX12_whyTake 25 = .ok (.aload_n 0, 1) := by decide +kernel
theorem dX12_whyTake_26 : decode cX12_whyTake 26 = .ok (.iload_n 2, 1) := by decide +kernel
theorem dX12_whyTake_27 : decode cX12_whyTake 27 = .ok (.invokevirtual 243, 3) := by decide +kernel
theorem dX12_whyTake_30 : decode cX12_whyTake 30 = .ok (.ifCond .lt 5, 3) := by decide +kernel
theorem dX12_whyTake_33 : decode cX12_whyTake 33 = .ok (.iconst 3, 1) := by decide +kernel
theorem dX12_whyTake_34 : decode cX12_whyTake 34 = .ok (.ireturn, 1) := by decide +kernel
theorem dX12_whyTake_35 : decode cX12_whyTake 35 = .ok (.aload_n 0, 1) := by decide +kernel
theorem dX12_whyTake_36 : decode cX12_whyTake 36 = .ok (.getfield 33, 3) := by decide +kernel
theorem dX12_whyTake_39 : decode cX12_whyTake 39 = .ok (.sipush 148, 3) := by decide +kernel
theorem dX12_whyTake_42 : decode cX12_whyTake 42 = .ok (.iaload, 1) := by decide +kernel
theorem dX12_whyTake_43 : decode cX12_whyTake 43 = .ok (.iload_n 2, 1) := by decide +kernel
theorem dX12_whyTake_44 : decode cX12_whyTake 44 = .ok (.invokestatic 215, 3) := by decide +kernel
theorem dX12_whyTake_47 : decode cX12_whyTake 47 = .ok (.ifCond .eq 5, 3) := by decide +kernel
theorem dX12_whyTake_50 : decode cX12_whyTake 50 = .ok (.iconst 4, 1) := by decide +kernel
theorem dX12_whyTake_51 : decode cX12_whyTake 51 = .ok (.ireturn, 1) := by decide +kernel
theorem dX12_whyTake_52 : decode cX12_whyTake 52 = .ok (.aload_n 0, 1) := by decide +kernel
theorem dX12_whyTake_53 : decode cX12_whyTake 53 = .ok (.getfield 33, 3) := by decide +kernel
theorem dX12_whyTake_56 : decode cX12_whyTake 56 = .ok (.sipush 152, 3) := by decide +kernel
theorem dX12_whyTake_59 : decode cX12_whyTake 59 = .ok (.iaload, 1) := by decide +kernel
theorem dX12_whyTake_60 : decode cX12_whyTake 60 = .ok (.iload_n 1, 1) := by decide +kernel
theorem dX12_whyTake_61 : decode cX12_whyTake 61 = .ok (.if_icmp .eq 7, 3) := by decide +kernel
theorem dX12_whyTake_64 : decode cX12_whyTake 64 = .ok (.iconst 5, 1) := by decide +kernel
theorem dX12_whyTake_65 : decode cX12_whyTake 65 = .ok (.goto 27, 3) := by decide +kernel
theorem dX12_whyTake_68 : decode cX12_whyTake 68 = .ok (.aload_n 0, 1) := by decide +kernel
theorem dX12_whyTake_69 : decode cX12_whyTake 69 = .ok (.getfield 33, 3) := by decide +kernel
theorem dX12_whyTake_72 : decode cX12_whyTake 72 = .ok (.sipush 170, 3) := by decide +kernel
theorem dX12_whyTake_75 : decode cX12_whyTake 75 = .ok (.iload_n 1, 1) := by decide +kernel
theorem dX12_whyTake_76 : decode cX12_whyTake 76 = .ok (.iadd, 1) := by decide +kernel
theorem dX12_whyTake_77 : decode cX12_whyTake 77 = .ok (.iaload, 1) := by decide +kernel
theorem dX12_whyTake_78 : decode cX12_whyTake 78 = .ok (.aload_n 0, 1) := by decide +kernel
theorem dX12_whyTake_79 : decode cX12_whyTake 79 = .ok (.iload_n 2, 1) := by decide +kernel
theorem dX12_whyTake_80 : decode cX12_whyTake 80 = .ok (.invokevirtual 249, 3) := by decide +kernel
theorem dX12_whyTake_83 : decode cX12_whyTake 83 = .ok (.if_icmp .ge 8, 3) := by decide +kernel
theorem dX12_whyTake_86 : decode cX12_whyTake 86 = .ok (.bipush 6, 2) := by decide +kernel
theorem dX12_whyTake_88 : decode cX12_whyTake 88 = .ok (.goto 4, 3) := by decide +kernel
theorem dX12_whyTake_91 : decode cX12_whyTake 91 = .ok (.iconst 0, 1) := by decide +kernel
theorem dX12_whyTake_92 : decode cX12_whyTake 92 = .ok (.ireturn, 1) := by decide +kernel
theorem dX12_wished_0 : decode cX12_wished 0 = .ok (.aload_n 0, 1) := by decide +kernel
theorem dX12_wished_1 : decode cX12_wished 1 = .ok (.iload_n 1, 1) := by decide +kernel
theorem dX12_wished_2 : decode cX12_wished 2 = .ok (.invokevirtual 338, 3) := by decide +kernel
theorem dX12_wished_5 : decode cX12_wished 5 = .ok (.ifCond .eq 21, 3) := by decide +kernel
theorem dX12_wished_8 : decode cX12_wished 8 = .ok (.aload_n 0, 1) := by decide +kernel
theorem dX12_wished_9 : decode cX12_wished 9 = .ok (.aload_n 0, 1) := by decide +kernel
theorem dX12_wished_10 : decode cX12_wished 10 = .ok (.getfield 33, 3) := by decide +kernel
theorem dX12_wished_13 : decode cX12_wished 13 = .ok (.bipush 47, 2) := by decide +kernel
theorem dX12_wished_15 : decode cX12_wished 15 = .ok (.iload_n 1, 1) := by decide +kernel
theorem dX12_wished_16 : decode cX12_wished 16 = .ok (.iadd, 1) := by decide +kernel
theorem dX12_wished_17 : decode cX12_wished 17 = .ok (.iaload, 1) := by decide +kernel
theorem dX12_wished_18 : decode cX12_wished 18 = .ok (.iconst 1, 1) := by decide +kernel
theorem dX12_wished_19 : decode cX12_wished 19 = .ok (.isub, 1) := by decide +kernel
theorem dX12_wished_20 : decode cX12_wished 20 = .ok (.invokevirtual 243, 3) := by decide +kernel
theorem dX12_wished_23 : decode cX12_wished 23 = .ok (.goto 4, 3) := by decide +kernel
theorem dX12_wished_26 : decode cX12_wished 26 = .ok (.iload_n 1, 1) := by decide +kernel
theorem dX12_wished_27 : decode cX12_wished 27 = .ok (.ireturn, 1) := by decide +kernel
theorem dX12_wishes_0 : decode cX12_wishes 0 = .ok (.aload_n 0, 1) := by decide +kernel
theorem dX12_wishes_1 : decode cX12_wishes 1 = .ok (.iconst 0, 1) := by decide +kernel
theorem dX12_wishes_2 : decode cX12_wishes 2 = .ok (.putfield 1, 3) := by decide +kernel
theorem dX12_wishes_5 : decode cX12_wishes 5 = .ok (.aload_n 0, 1) := by decide +kernel
theorem dX12_wishes_6 : decode cX12_wishes 6 = .ok (.iconst (-1), 1) := by decide +kernel
theorem dX12_wishes_7 : decode cX12_wishes 7 = .ok (.putfield 59, 3) := by decide +kernel
theorem dX12_wishes_10 : decode cX12_wishes 10 = .ok (.aload_n 0, 1) := by decide +kernel
theorem dX12_wishes_11 : decode cX12_wishes 11 = .ok (.invokevirtual 344, 3) := by decide +kernel
theorem dX12_wishes_14 : decode cX12_wishes 14 = .ok (.ifCond .ne 5, 3) := by decide +kernel
theorem dX12_wishes_17 : decode cX12_wishes 17 = .ok (.iconst (-1), 1) := by decide +kernel
theorem dX12_wishes_18 : decode cX12_wishes 18 = .ok (.ireturn, 1) := by decide +kernel
theorem dX12_wishes_19 : decode cX12_wishes 19 = .ok (.iconst 0, 1) := by decide +kernel
theorem dX12_wishes_20 : decode cX12_wishes 20 = .ok (.istore_n 1, 1) := by decide +kernel
theorem dX12_wishes_21 : decode cX12_wishes 21 = .ok (.iconst 0, 1) := by decide +kernel
theorem dX12_wishes_22 : decode cX12_wishes 22 = .ok (.istore_n 2, 1) := by decide +kernel
theorem dX12_wishes_23 : decode cX12_wishes 23 = .ok (.iload_n 2, 1) := by decide +kernel
theorem dX12_wishes_24 : decode cX12_wishes 24 = .ok (.bipush 9, 2) := by decide +kernel
theorem dX12_wishes_26 : decode cX12_wishes 26 = .ok (.if_icmp .ge 16, 3) := by decide +kernel
theorem dX12_wishes_29 : decode cX12_wishes 29 = .ok (.aload_n 0, 1) := by decide +kernel
theorem dX12_wishes_30 : decode cX12_wishes 30 = .ok (.getfield 56, 3) := by decide +kernel
theorem dX12_wishes_33 : decode cX12_wishes 33 = .ok (.iload_n 2, 1) := by decide +kernel
theorem dX12_wishes_34 : decode cX12_wishes 34 = .ok (.iconst (-1), 1) := by decide +kernel
theorem dX12_wishes_35 : decode cX12_wishes 35 = .ok (.iastore, 1) := by decide +kernel
theorem dX12_wishes_36 : decode cX12_wishes 36 = .ok (.iinc 2 1, 3) := by decide +kernel
theorem dX12_wishes_39 : decode cX12_wishes 39 = .ok (.goto (-16), 3) := by decide +kernel
theorem dX12_wishes_42 : decode cX12_wishes 42 = .ok (.iconst 0, 1) := by decide +kernel
theorem dX12_wishes_43 : decode cX12_wishes 43 = .ok (.istore_n 2, 1) := by decide +kernel
theorem dX12_wishes_44 : decode cX12_wishes 44 = .ok (.iload_n 2, 1) := by decide +kernel
theorem dX12_wishes_45 : decode cX12_wishes 45 = .ok (.aload_n 0, 1) := by decide +kernel
theorem dX12_wishes_46 : decode cX12_wishes 46 = .ok (.getfield 33, 3) := by decide +kernel
theorem dX12_wishes_49 : decode cX12_wishes 49 = .ok (.iconst 1, 1) := by decide +kernel
theorem dX12_wishes_50 : decode cX12_wishes 50 = .ok (.iaload, 1) := by decide +kernel
theorem dX12_wishes_51 : decode cX12_wishes 51 = .ok (.if_icmp .ge 105, 3) := by decide +kernel
theorem dX12_wishes_54 : decode cX12_wishes 54 = .ok (.aload_n 0, 1) := by decide +kernel
theorem dX12_wishes_55 : decode cX12_wishes 55 = .ok (.iload_n 2, 1) := by decide +kernel
theorem dX12_wishes_56 : decode cX12_wishes 56 = .ok (.invokevirtual 338, 3) := by decide +kernel
theorem dX12_wishes_59 : decode cX12_wishes 59 = .ok (.ifCond .eq 91, 3) := by decide +kernel
theorem dX12_wishes_62 : decode cX12_wishes 62 = .ok (.aload_n 0, 1) := by decide +kernel
theorem dX12_wishes_63 : decode cX12_wishes 63 = .ok (.iload_n 2, 1) := by decide +kernel
theorem dX12_wishes_64 : decode cX12_wishes 64 = .ok (.invokevirtual 347, 3) := by decide +kernel
theorem dX12_wishes_67 : decode cX12_wishes 67 = .ok (.ifCond .eq 6, 3) := by decide +kernel
theorem dX12_wishes_70 : decode cX12_wishes 70 = .ok (.goto 80, 3) := by decide +kernel
theorem dX12_wishes_73 : decode cX12_wishes 73 = .ok (.aload_n 0, 1) := by decide +kernel
theorem dX12_wishes_74 : decode cX12_wishes 74 = .ok (.iload_n 2, 1) := by decide +kernel
theorem dX12_wishes_75 : decode cX12_wishes 75 = .ok (.invokevirtual 341, 3) := by decide +kernel
theorem dX12_wishes_78 : decode cX12_wishes 78 = .ok (.istore_n 3, 1) := by decide +kernel
theorem dX12_wishes_79 : decode cX12_wishes 79 = .ok (.aload_n 0, 1) := by decide +kernel
theorem dX12_wishes_80 : decode cX12_wishes 80 = .ok (.iload_n 3, 1) := by decide +kernel
theorem dX12_wishes_81 : decode cX12_wishes 81 = .ok (.invokevirtual 338, 3) := by decide +kernel
theorem dX12_wishes_84 : decode cX12_wishes 84 = .ok (.ifCond .eq 25, 3) := by decide +kernel
theorem dX12_wishes_87 : decode cX12_wishes 87 = .ok (.aload_n 0, 1) := by decide +kernel
theorem dX12_wishes_88 : decode cX12_wishes 88 = .ok (.getfield 33, 3) := by decide +kernel
theorem dX12_wishes_91 : decode cX12_wishes 91 = .ok (.bipush 47, 2) := by decide +kernel
theorem dX12_wishes_93 : decode cX12_wishes 93 = .ok (.iload_n 3, 1) := by decide +kernel
theorem dX12_wishes_94 : decode cX12_wishes 94 = .ok (.iadd, 1) := by decide +kernel
theorem dX12_wishes_95 : decode cX12_wishes 95 = .ok (.iaload, 1) := by decide +kernel
theorem dX12_wishes_96 : decode cX12_wishes 96 = .ok (.aload_n 0, 1) := by decide +kernel
theorem dX12_wishes_97 : decode cX12_wishes 97 = .ok (.getfield 33, 3) := by decide +kernel
theorem dX12_wishes_100 : decode cX12_wishes 100 = .ok (.sipush 161, 3) := by decide +kernel
theorem dX12_wishes_103 : decode cX12_wishes 103 = .ok (.iload_n 2, 1) := by decide +kernel
theorem dX12_wishes_104 : decode cX12_wishes 104 = .ok (.iadd, 1) := by decide +kernel
theorem dX12_wishes_105 : decode cX12_wishes 105 = .ok (.iaload, 1) := by decide +kernel
theorem dX12_wishes_106 : decode cX12_wishes 106 = .ok (.if_icmp .ne 7, 3) := by decide +kernel
theorem dX12_wishes_109 : decode cX12_wishes 109 = .ok (.iconst 1, 1) := by decide +kernel
theorem dX12_wishes_110 : decode cX12_wishes 110 = .ok (.goto 4, 3) := by decide +kernel
theorem dX12_wishes_113 : decode cX12_wishes 113 = .ok (.iconst 0, 1) := by decide +kernel
theorem dX12_wishes_114 : decode cX12_wishes 114 = .ok (.istore 4, 2) := by decide +kernel
theorem dX12_wishes_116 : decode cX12_wishes 116 = .ok (.iload 4, 2) := by decide +kernel
theorem dX12_wishes_118 : decode cX12_wishes 118 = .ok (.ifCond .eq 16, 3) := by decide +kernel
theorem dX12_wishes_121 : decode cX12_wishes 121 = .ok (.iload_n 1, 1) := by decide +kernel
theorem dX12_wishes_122 : decode cX12_wishes 122 = .ok (.iconst 2, 1) := by decide +kernel
theorem dX12_wishes_123 : decode cX12_wishes 123 = .ok (.if_icmp .ne 7, 3) := by decide +kernel
theorem dX12_wishes_126 : decode cX12_wishes 126 = .ok (.iconst 2, 1) := by decide +kernel
theorem dX12_wishes_127 : decode cX12_wishes 127 = .ok (.goto 8, 3) := by decide +kernel
theorem dX12_wishes_130 : decode cX12_wishes 130 = .ok (.iconst 1, 1) := by decide +kernel
theorem dX12_wishes_131 : decode cX12_wishes 131 = .ok (.goto 4, 3) := by decide +kernel
theorem dX12_wishes_134 : decode cX12_wishes 134 = .ok (.iconst 2, 1) := by decide +kernel
theorem dX12_wishes_135 : decode cX12_wishes 135 = .ok (.istore_n 1, 1) := by decide +kernel
theorem dX12_wishes_136 : decode cX12_wishes 136 = .ok (.aload_n 0, 1) := by decide +kernel
theorem dX12_wishes_137 : decode cX12_wishes 137 = .ok (.getfield 56, 3) := by decide +kernel
theorem dX12_wishes_140 : decode cX12_wishes 140 = .ok (.iload_n 2, 1) := by decide +kernel
theorem dX12_wishes_141 : decode cX12_wishes 141 = .ok (.iload_n 3, 1) := by decide +kernel
theorem dX12_wishes_142 : decode cX12_wishes 142 = .ok (.iastore, 1) := by decide +kernel
theorem dX12_wishes_143 : decode cX12_wishes 143 = .ok (.aload_n 0, 1) := by decide +kernel
theorem dX12_wishes_144 : decode cX12_wishes 144 = .ok (.getfield 56, 3) := by decide +kernel
theorem dX12_wishes_147 : decode cX12_wishes 147 = .ok (.iload_n 3, 1) := by decide +kernel
theorem dX12_wishes_148 : decode cX12_wishes 148 = .ok (.iload_n 2, 1) := by decide +kernel
theorem dX12_wishes_149 : decode cX12_wishes 149 = .ok (.iastore, 1) := by decide +kernel
theorem dX12_wishes_150 : decode cX12_wishes 150 = .ok (.iinc 2 1, 3) := by decide +kernel
theorem dX12_wishes_153 : decode cX12_wishes 153 = .ok (.goto (-109), 3) := by decide +kernel
theorem dX12_wishes_156 : decode cX12_wishes 156 = .ok (.iload_n 1, 1) := by decide +kernel
theorem dX12_wishes_157 : decode cX12_wishes 157 = .ok (.iconst 1, 1) := by decide +kernel
theorem dX12_wishes_158 : decode cX12_wishes 158 = .ok (.if_icmp .ne 13, 3) := by decide +kernel
theorem dX12_wishes_161 : decode cX12_wishes 161 = .ok (.aload_n 0, 1) := by decide +kernel
theorem dX12_wishes_162 : decode cX12_wishes 162 = .ok (.aload_n 0, 1) := by decide +kernel
