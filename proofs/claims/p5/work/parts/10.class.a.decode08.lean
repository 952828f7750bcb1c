theorem dX2_whyNotFlee_11 : decode cX2_whyNotFlee 11 = .ok (.getfield 21, 3) := by decide +kernel
theorem dX2_whyNotFlee_14 : decode cX2_whyNotFlee 14 = .ok (.iload_n 1, 1) := by decide +kernel
theorem dX2_whyNotFlee_15 : decode cX2_whyNotFlee 15 = .ok (.iaload, 1) := by decide +kernel
theorem dX2_whyNotFlee_16 : decode cX2_whyNotFlee 16 = .ok (.iconst (-1), 1) := by decide +kernel
theorem dX2_whyNotFlee_17 : decode cX2_whyNotFlee 17 = .ok (.if_icmp .ne 5, 3) := by decide +kernel
theorem dX2_whyNotFlee_20 : decode cX2_whyNotFlee 20 = .ok (.iconst 2, 1) := by decide +kernel
theorem dX2_whyNotFlee_21 : decode cX2_whyNotFlee 21 = .ok (.ireturn, 1) := by decide +kernel
theorem dX2_whyNotFlee_22 : decode cX2_whyNotFlee 22 = .ok (.aload_n 0, 1) := by decide +kernel
theorem dX2_whyNotFlee_23 : decode cX2_whyNotFlee 23 = .ok (.iload_n 1, 1) := by decide +kernel
theorem dX2_whyNotFlee_24 : decode cX2_whyNotFlee 24 = .ok (.invokevirtual 165, 3) := by decide +kernel
theorem dX2_whyNotFlee_27 : decode cX2_whyNotFlee 27 = .ok (.ifCond .eq 7, 3) := by decide +kernel
theorem dX2_whyNotFlee_30 : decode cX2_whyNotFlee 30 = .ok (.iconst 3, 1) := by decide +kernel
theorem dX2_whyNotFlee_31 : decode cX2_whyNotFlee 31 = .ok (.goto 4, 3) := by decide +kernel
theorem dX2_whyNotFlee_34 : decode cX2_whyNotFlee 34 = .ok (.iconst 0, 1) := by decide +kernel
theorem dX2_whyNotFlee_35 : decode cX2_whyNotFlee 35 = .ok (.ireturn, 1) := by decide +kernel
theorem dX2_whyNotPay_0 : decode cX2_whyNotPay 0 = .ok (.aload_n 0, 1) := by decide +kernel
theorem dX2_whyNotPay_1 : decode cX2_whyNotPay 1 = .ok (.iload_n 1, 1) := by decide +kernel
theorem dX2_whyNotPay_2 : decode cX2_whyNotPay 2 = .ok (.invokevirtual 106, 3) := by decide +kernel
theorem dX2_whyNotPay_5 : decode cX2_whyNotPay 5 = .ok (.ifCond .ne 5, 3) := by decide +kernel
theorem dX2_whyNotPay_8 : decode cX2_whyNotPay 8 = .ok (.iconst 1, 1) := by decide +kernel
theorem dX2_whyNotPay_9 : decode cX2_whyNotPay 9 = .ok (.ireturn, 1) := by decide +kernel
theorem dX2_whyNotPay_10 : decode cX2_whyNotPay 10 = .ok (.aload_n 0, 1) := by decide +kernel
theorem dX2_whyNotPay_11 : decode cX2_whyNotPay 11 = .ok (.getfield 21, 3) := by decide +kernel
theorem dX2_whyNotPay_14 : decode cX2_whyNotPay 14 = .ok (.iload_n 1, 1) := by decide +kernel
theorem dX2_whyNotPay_15 : decode cX2_whyNotPay 15 = .ok (.iaload, 1) := by decide +kernel
theorem dX2_whyNotPay_16 : decode cX2_whyNotPay 16 = .ok (.iconst (-1), 1) := by decide +kernel
theorem dX2_whyNotPay_17 : decode cX2_whyNotPay 17 = .ok (.if_icmp .ne 5, 3) := by decide +kernel
theorem dX2_whyNotPay_20 : decode cX2_whyNotPay 20 = .ok (.iconst 2, 1) := by decide +kernel
theorem dX2_whyNotPay_21 : decode cX2_whyNotPay 21 = .ok (.ireturn, 1) := by decide +kernel
theorem dX2_whyNotPay_22 : decode cX2_whyNotPay 22 = .ok (.iload_n 2, 1) := by decide +kernel
theorem dX2_whyNotPay_23 : decode cX2_whyNotPay 23 = .ok (.aload_n 0, 1) := by decide +kernel
theorem dX2_whyNotPay_24 : decode cX2_whyNotPay 24 = .ok (.iload_n 1, 1) := by decide +kernel
theorem dX2_whyNotPay_25 : decode cX2_whyNotPay 25 = .ok (.invokevirtual 168, 3) := by decide +kernel
theorem dX2_whyNotPay_28 : decode cX2_whyNotPay 28 = .ok (.if_icmp .le 5, 3) := by decide +kernel
theorem dX2_whyNotPay_31 : decode cX2_whyNotPay 31 = .ok (.iconst 3, 1) := by decide +kernel
theorem dX2_whyNotPay_32 : decode cX2_whyNotPay 32 = .ok (.ireturn, 1) := by decide +kernel
theorem dX2_whyNotPay_33 : decode cX2_whyNotPay 33 = .ok (.aload_n 0, 1) := by decide +kernel
theorem dX2_whyNotPay_34 : decode cX2_whyNotPay 34 = .ok (.getfield 24, 3) := by decide +kernel
theorem dX2_whyNotPay_37 : decode cX2_whyNotPay 37 = .ok (.iload_n 1, 1) := by decide +kernel
theorem dX2_whyNotPay_38 : decode cX2_whyNotPay 38 = .ok (.iaload, 1) := by decide +kernel
theorem dX2_whyNotPay_39 : decode cX2_whyNotPay 39 = .ok (.iload_n 2, 1) := by decide +kernel
theorem dX2_whyNotPay_40 : decode cX2_whyNotPay 40 = .ok (.if_icmp .ge 7, 3) := by decide +kernel
theorem dX2_whyNotPay_43 : decode cX2_whyNotPay 43 = .ok (.iconst 4, 1) := by decide +kernel
theorem dX2_whyNotPay_44 : decode cX2_whyNotPay 44 = .ok (.goto 4, 3) := by decide +kernel
theorem dX2_whyNotPay_47 : decode cX2_whyNotPay 47 = .ok (.iconst 0, 1) := by decide +kernel
theorem dX2_whyNotPay_48 : decode cX2_whyNotPay 48 = .ok (.ireturn, 1) := by decide +kernel
theorem dX2_whyNotSell_0 : decode cX2_whyNotSell 0 = .ok (.iload_n 1, 1) := by decide +kernel
theorem dX2_whyNotSell_1 : decode cX2_whyNotSell 1 = .ok (.iload_n 2, 1) := by decide +kernel
theorem dX2_whyNotSell_2 : decode cX2_whyNotSell 2 = .ok (.if_icmp .ne 6, 3) := by decide +kernel
theorem dX2_whyNotSell_5 : decode cX2_whyNotSell 5 = .ok (.bipush 9, 2) := by decide +kernel
theorem dX2_whyNotSell_7 : decode cX2_whyNotSell 7 = .ok (.ireturn, 1) := by decide +kernel
theorem dX2_whyNotSell_8 : decode cX2_whyNotSell 8 = .ok (.aload_n 0, 1) := by decide +kernel
theorem dX2_whyNotSell_9 : decode cX2_whyNotSell 9 = .ok (.iload_n 1, 1) := by decide +kernel
theorem dX2_whyNotSell_10 : decode cX2_whyNotSell 10 = .ok (.invokevirtual 106, 3) := by decide +kernel
theorem dX2_whyNotSell_13 : decode cX2_whyNotSell 13 = .ok (.ifCond .eq 11, 3) := by decide +kernel
theorem dX2_whyNotSell_16 : decode cX2_whyNotSell 16 = .ok (.aload_n 0, 1) := by decide +kernel
theorem dX2_whyNotSell_17 : decode cX2_whyNotSell 17 = .ok (.iload_n 2, 1) := by decide +kernel
theorem dX2_whyNotSell_18 : decode cX2_whyNotSell 18 = .ok (.invokevirtual 106, 3) := by decide +kernel
theorem dX2_whyNotSell_21 : decode cX2_whyNotSell 21 = .ok (.ifCond .ne 5, 3) := by decide +kernel
theorem dX2_whyNotSell_24 : decode cX2_whyNotSell 24 = .ok (.iconst 1, 1) := by decide +kernel
theorem dX2_whyNotSell_25 : decode cX2_whyNotSell 25 = .ok (.ireturn, 1) := by decide +kernel
theorem dX2_whyNotSell_26 : decode cX2_whyNotSell 26 = .ok (.aload_n 0, 1) := by decide +kernel
theorem dX2_whyNotSell_27 : decode cX2_whyNotSell 27 = .ok (.getfield 21, 3) := by decide +kernel
theorem dX2_whyNotSell_30 : decode cX2_whyNotSell 30 = .ok (.iload_n 1, 1) := by decide +kernel
theorem dX2_whyNotSell_31 : decode cX2_whyNotSell 31 = .ok (.iaload, 1) := by decide +kernel
theorem dX2_whyNotSell_32 : decode cX2_whyNotSell 32 = .ok (.iconst (-1), 1) := by decide +kernel
theorem dX2_whyNotSell_33 : decode cX2_whyNotSell 33 = .ok (.if_icmp .eq 13, 3) := by decide +kernel
theorem dX2_whyNotSell_36 : decode cX2_whyNotSell 36 = .ok (.aload_n 0, 1) := by decide +kernel
theorem dX2_whyNotSell_37 : decode cX2_whyNotSell 37 = .ok (.getfield 21, 3) := by decide +kernel
theorem dX2_whyNotSell_40 : decode cX2_whyNotSell 40 = .ok (.iload_n 2, 1) := by decide +kernel
theorem dX2_whyNotSell_41 : decode cX2_whyNotSell 41 = .ok (.iaload, 1) := by decide +kernel
theorem dX2_whyNotSell_42 : decode cX2_whyNotSell 42 = .ok (.iconst (-1), 1) := by decide +kernel
theorem dX2_whyNotSell_43 : decode cX2_whyNotSell 43 = .ok (.if_icmp .eq 5, 3) := by decide +kernel
theorem dX2_whyNotSell_46 : decode cX2_whyNotSell 46 = .ok (.iconst 2, 1) := by decide +kernel
theorem dX2_whyNotSell_47 : decode cX2_whyNotSell 47 = .ok (.ireturn, 1) := by decide +kernel
theorem dX2_whyNotSell_48 : decode cX2_whyNotSell 48 = .ok (.aload_n 0, 1) := by decide +kernel
theorem dX2_whyNotSell_49 : decode cX2_whyNotSell 49 = .ok (.iload_n 1, 1) := by decide +kernel
theorem dX2_whyNotSell_50 : decode cX2_whyNotSell 50 = .ok (.invokevirtual 165, 3) := by decide +kernel
theorem dX2_whyNotSell_53 : decode cX2_whyNotSell 53 = .ok (.ifCond .ne 11, 3) := by decide +kernel
theorem dX2_whyNotSell_56 : decode cX2_whyNotSell 56 = .ok (.aload_n 0, 1) := by decide +kernel
theorem dX2_whyNotSell_57 : decode cX2_whyNotSell 57 = .ok (.iload_n 2, 1) := by decide +kernel
theorem dX2_whyNotSell_58 : decode cX2_whyNotSell 58 = .ok (.invokevirtual 165, 3) := by decide +kernel
theorem dX2_whyNotSell_61 : decode cX2_whyNotSell 61 = .ok (.ifCond .eq 5, 3) := by decide +kernel
theorem dX2_whyNotSell_64 : decode cX2_whyNotSell 64 = .ok (.iconst 3, 1) := by decide +kernel
theorem dX2_whyNotSell_65 : decode cX2_whyNotSell 65 = .ok (.ireturn, 1) := by decide +kernel
theorem dX2_whyNotSell_66 : decode cX2_whyNotSell 66 = .ok (.aload_n 0, 1) := by decide +kernel
theorem dX2_whyNotSell_67 : decode cX2_whyNotSell 67 = .ok (.getfield 24, 3) := by decide +kernel
theorem dX2_whyNotSell_70 : decode cX2_whyNotSell 70 = .ok (.iload_n 2, 1) := by decide +kernel
theorem dX2_whyNotSell_71 : decode cX2_whyNotSell 71 = .ok (.iaload, 1) := by decide +kernel
theorem dX2_whyNotSell_72 : decode cX2_whyNotSell 72 = .ok (.aload_n 0, 1) := by decide +kernel
theorem dX2_whyNotSell_73 : decode cX2_whyNotSell 73 = .ok (.getfield 37, 3) := by decide +kernel
theorem dX2_whyNotSell_76 : decode cX2_whyNotSell 76 = .ok (.getfield 113, 3) := by decide +kernel
theorem dX2_whyNotSell_79 : decode cX2_whyNotSell 79 = .ok (.aload_n 0, 1) := by decide +kernel
theorem dX2_whyNotSell_80 : decode cX2_whyNotSell 80 = .ok (.getfield 21, 3) := by decide +kernel
theorem dX2_whyNotSell_83 : decode cX2_whyNotSell 83 = .ok (.iload_n 1, 1) := by decide +kernel
theorem dX2_whyNotSell_84 : decode cX2_whyNotSell 84 = .ok (.iaload, 1) := by decide +kernel
theorem dX2_whyNotSell_85 : decode cX2_whyNotSell 85 = .ok (.iaload, 1) := by decide +kernel
theorem dX2_whyNotSell_86 : decode cX2_whyNotSell 86 = .ok (.if_icmp .ge 7, 3) := by decide +kernel
theorem dX2_whyNotSell_89 : decode cX2_whyNotSell 89 = .ok (.iconst 4, 1) := by decide +kernel
theorem dX2_whyNotSell_90 : decode cX2_whyNotSell 90 = .ok (.goto 4, 3) := by decide +kernel
theorem dX2_whyNotSell_93 : decode cX2_whyNotSell 93 = .ok (.iconst 0, 1) := by decide +kernel
theorem dX2_whyNotSell_94 : decode cX2_whyNotSell 94 = .ok (.ireturn, 1) := by decide +kernel
theorem dX2_whyNotSwap_0 : decode cX2_whyNotSwap 0 = .ok (.iload_n 1, 1) := by decide +kernel
theorem dX2_whyNotSwap_1 : decode cX2_whyNotSwap 1 = .ok (.iload_n 2, 1) := by decide +kernel
theorem dX2_whyNotSwap_2 : decode cX2_whyNotSwap 2 = .ok (.if_icmp .ne 6, 3) := by decide +kernel
theorem dX2_whyNotSwap_5 : decode cX2_whyNotSwap 5 = .ok (.bipush 9, 2) := by decide +kernel
theorem dX2_whyNotSwap_7 : decode cX2_whyNotSwap 7 = .ok (.ireturn, 1) := by decide +kernel
theorem dX2_whyNotSwap_8 : decode cX2_whyNotSwap 8 = .ok (.aload_n 0, 1) := by decide +kernel
theorem dX2_whyNotSwap_9 : decode cX2_whyNotSwap 9 = .ok (.iload_n 1, 1) := by decide +kernel
theorem dX2_whyNotSwap_10 : decode cX2_whyNotSwap 10 = .ok (.invokevirtual 106, 3) := by decide +kernel
theorem dX2_whyNotSwap_13 : decode cX2_whyNotSwap 13 = .ok (.ifCond .eq 11, 3) := by decide +kernel
theorem dX2_whyNotSwap_16 : decode cX2_whyNotSwap 16 = .ok (.aload_n 0, 1) := by decide +kernel
theorem dX2_whyNotSwap_17 : decode cX2_whyNotSwap 17 = .ok (.iload_n 2, 1) := by decide +kernel
theorem dX2_whyNotSwap_18 : decode cX2_whyNotSwap 18 = .ok (.invokevirtual 106, 3) := by decide +kernel
theorem dX2_whyNotSwap_21 : decode cX2_whyNotSwap 21 = .ok (.ifCond .ne 5, 3) := by decide +kernel
theorem dX2_whyNotSwap_24 : decode cX2_whyNotSwap 24 = .ok (.iconst 1, 1) := by decide +kernel
theorem dX2_whyNotSwap_25 : decode cX2_whyNotSwap 25 = .ok (.ireturn, 1) := by decide +kernel
theorem dX2_whyNotSwap_26 : decode cX2_whyNotSwap 26 = .ok (.aload_n 0, 1) := by decide +kernel
theorem dX2_whyNotSwap_27 : decode cX2_whyNotSwap 27 = .ok (.getfield 21, 3) := by decide +kernel
theorem dX2_whyNotSwap_30 : decode cX2_whyNotSwap 30 = .ok (.iload_n 1, 1) := by decide +kernel
theorem dX2_whyNotSwap_31 : decode cX2_whyNotSwap 31 = .ok (.iaload, 1) := by decide +kernel
theorem dX2_whyNotSwap_32 : decode cX2_whyNotSwap 32 = .ok (.iconst (-1), 1) := by decide +kernel
theorem dX2_whyNotSwap_33 : decode cX2_whyNotSwap 33 = .ok (.if_icmp .eq 13, 3) := by decide +kernel
theorem dX2_whyNotSwap_36 : decode cX2_whyNotSwap 36 = .ok (.aload_n 0, 1) := by decide +kernel
theorem dX2_whyNotSwap_37 : decode cX2_whyNotSwap 37 = .ok (.getfield 21, 3) := by decide +kernel
theorem dX2_whyNotSwap_40 : decode cX2_whyNotSwap 40 = .ok (.iload_n 2, 1) := by decide +kernel
theorem dX2_whyNotSwap_41 : decode cX2_whyNotSwap 41 = .ok (.iaload, 1) := by decide +kernel
theorem dX2_whyNotSwap_42 : decode cX2_whyNotSwap 42 = .ok (.iconst (-1), 1) := by decide +kernel
theorem dX2_whyNotSwap_43 : decode cX2_whyNotSwap 43 = .ok (.if_icmp .ne 5, 3) := by decide +kernel
theorem dX2_whyNotSwap_46 : decode cX2_whyNotSwap 46 = .ok (.iconst 2, 1) := by decide +kernel
theorem dX2_whyNotSwap_47 : decode cX2_whyNotSwap 47 = .ok (.ireturn, 1) := by decide +kernel
theorem dX2_whyNotSwap_48 : decode cX2_whyNotSwap 48 = .ok (.aload_n 0, 1) := by decide +kernel
theorem dX2_whyNotSwap_49 : decode cX2_whyNotSwap 49 = .ok (.iload_n 1, 1) := by decide +kernel
theorem dX2_whyNotSwap_50 : decode cX2_whyNotSwap 50 = .ok (.invokevirtual 165, 3) := by decide +kernel
theorem dX2_whyNotSwap_53 : decode cX2_whyNotSwap 53 = .ok (.ifCond .ne 11, 3) := by decide +kernel
theorem dX2_whyNotSwap_56 : decode cX2_whyNotSwap 56 = .ok (.aload_n 0, 1) := by decide +kernel
theorem dX2_whyNotSwap_57 : decode cX2_whyNotSwap 57 = .ok (.iload_n 2, 1) := by decide +kernel
theorem dX2_whyNotSwap_58 : decode cX2_whyNotSwap 58 = .ok (.invokevirtual 165, 3) := by decide +kernel
theorem dX2_whyNotSwap_61 : decode cX2_whyNotSwap 61 = .ok (.ifCond .eq 7, 3) := by decide +kernel
theorem dX2_whyNotSwap_64 : decode cX2_whyNotSwap 64 = .ok (.iconst 3, 1) := by decide +kernel
theorem dX2_whyNotSwap_65 : decode cX2_whyNotSwap 65 = .ok (.goto 4, 3) := by decide +kernel
theorem dX2_whyNotSwap_68 : decode cX2_whyNotSwap 68 = .ok (.iconst 0, 1) := by decide +kernel
theorem dX2_whyNotSwap_69 : decode cX2_whyNotSwap 69 = .ok (.ireturn, 1) := by decide +kernel
theorem dX2_whyNotTake_0 : decode cX2_whyNotTake 0 = .ok (.aload_n 0, 1) := by decide +kernel
theorem dX2_whyNotTake_1 : decode cX2_whyNotTake 1 = .ok (.iload_n 1, 1) := by decide +kernel
theorem dX2_whyNotTake_2 : decode cX2_whyNotTake 2 = .ok (.invokevirtual 106, 3) := by decide +kernel
theorem dX2_whyNotTake_5 : decode cX2_whyNotTake 5 = .ok (.ifCond .ne 5, 3) := by decide +kernel
theorem dX2_whyNotTake_8 : decode cX2_whyNotTake 8 = .ok (.iconst 1, 1) := by decide +kernel
theorem dX2_whyNotTake_9 : decode cX2_whyNotTake 9 = .ok (.ireturn, 1) := by decide +kernel
theorem dX2_whyNotTake_10 : decode cX2_whyNotTake 10 = .ok (.aload_n 0, 1) := by decide +kernel
theorem dX2_whyNotTake_11 : decode cX2_whyNotTake 11 = .ok (.getfield 21, 3) := by decide +kernel
theorem dX2_whyNotTake_14 : decode cX2_whyNotTake 14 = .ok (.iload_n 1, 1) := by decide +kernel
theorem dX2_whyNotTake_15 : decode cX2_whyNotTake 15 = .ok (.iaload, 1) := by decide +kernel
theorem dX2_whyNotTake_16 : decode cX2_whyNotTake 16 = .ok (.iconst (-1), 1) := by decide +kernel
theorem dX2_whyNotTake_17 : decode cX2_whyNotTake 17 = .ok (.if_icmp .eq 5, 3) := by decide +kernel
theorem dX2_whyNotTake_20 : decode cX2_whyNotTake 20 = .ok (.iconst 2, 1) := by decide +kernel
theorem dX2_whyNotTake_21 : decode cX2_whyNotTake 21 = .ok (.ireturn, 1) := by decide +kernel
theorem dX2_whyNotTake_22 : decode cX2_whyNotTake 22 = .ok (.aload_n 0, 1) := by decide +kernel
theorem dX2_whyNotTake_23 : decode cX2_whyNotTake 23 = .ok (.getfield 9, 3) := by decide +kernel
theorem dX2_whyNotTake_26 : decode cX2_whyNotTake 26 = .ok (.iload_n 2, 1) := by decide +kernel
theorem dX2_whyNotTake_27 : decode cX2_whyNotTake 27 = .ok (.iaload, 1) := by decide +kernel
theorem dX2_whyNotTake_28 : decode cX2_whyNotTake 28 = .ok (.iconst (-1), 1) := by decide +kernel
theorem dX2_whyNotTake_29 : decode cX2_whyNotTake 29 = .ok (.if_icmp .eq 5, 3) := by decide +kernel
theorem dX2_whyNotTake_32 : decode cX2_whyNotTake 32 = .ok (.iconst 3, 1) := by decide +kernel
theorem dX2_whyNotTake_33 : decode cX2_whyNotTake 33 = .ok (.ireturn, 1) := by decide +kernel
theorem dX2_whyNotTake_34 : decode cX2_whyNotTake 34 = .ok (.aload_n 0, 1) := by decide +kernel
theorem dX2_whyNotTake_35 : decode cX2_whyNotTake 35 = .ok (.iload_n 2, 1) := by decide +kernel
theorem dX2_whyNotTake_36 : decode cX2_whyNotTake 36 = .ok (.invokevirtual 156, 3) := by decide +kernel
theorem dX2_whyNotTake_39 : decode cX2_whyNotTake 39 = .ok (.ifCond .eq 5, 3) := by decide +kernel
theorem dX2_whyNotTake_42 : decode cX2_whyNotTake 42 = .ok (.iconst 4, 1) := by decide +kernel
theorem dX2_whyNotTake_43 : decode cX2_whyNotTake 43 = .ok (.ireturn, 1) := by decide +kernel
theorem dX2_whyNotTake_44 : decode cX2_whyNotTake 44 = .ok (.aload_n 0, 1) := by decide +kernel
theorem dX2_whyNotTake_45 : decode cX2_whyNotTake 45 = .ok (.iload_n 1, 1) := by decide +kernel
theorem dX2_whyNotTake_46 : decode cX2_whyNotTake 46 = .ok (.invokevirtual 159, 3) := by decide +kernel
theorem dX2_whyNotTake_49 : decode cX2_whyNotTake 49 = .ok (.ifCond .le 5, 3) := by decide +kernel
theorem dX2_whyNotTake_52 : decode cX2_whyNotTake 52 = .ok (.iconst 5, 1) := by decide +kernel
theorem dX2_whyNotTake_53 : decode cX2_whyNotTake 53 = .ok (.ireturn, 1) := by decide +kernel
theorem dX2_whyNotTake_54 : decode cX2_whyNotTake 54 = .ok (.aload_n 0, 1) := by decide +kernel
theorem dX2_whyNotTake_55 : decode cX2_whyNotTake 55 = .ok (.getfield 24, 3) := by decide +kernel
theorem dX2_whyNotTake_58 : decode cX2_whyNotTake 58 = .ok (.iload_n 1, 1) := by decide +kernel
theorem dX2_whyNotTake_59 : decode cX2_whyNotTake 59 = .ok (.iaload, 1) := by decide +kernel
theorem dX2_whyNotTake_60 : decode cX2_whyNotTake 60 = .ok (.aload_n 0, 1) := by decide +kernel
theorem dX2_whyNotTake_61 : decode cX2_whyNotTake 61 = .ok (.iload_n 2, 1) := by decide +kernel
theorem dX2_whyNotTake_62 : decode cX2_whyNotTake 62 = .ok (.invokevirtual 162, 3) := by decide +kernel
theorem dX2_whyNotTake_65 : decode cX2_whyNotTake 65 = .ok (.if_icmp .ge 8, 3) := by decide +kernel
theorem dX2_whyNotTake_68 : decode cX2_whyNotTake 68 = .ok (.bipush 6, 2) := by decide +kernel
theorem dX2_whyNotTake_70 : decode cX2_whyNotTake 70 = .ok (.goto 4, 3) := by decide +kernel
theorem dX2_whyNotTake_73 : decode cX2_whyNotTake 73 = .ok (.iconst 0, 1) := by decide +kernel
theorem dX2_whyNotTake_74 : decode cX2_whyNotTake 74 = .ok (.ireturn, 1) := by decide +kernel
theorem dX3_coinFor_0 : decode cX3_coinFor 0 = .ok (.aload_n 0, 1) := by decide +kernel
theorem dX3_coinFor_1 : decode cX3_coinFor 1 = .ok (.getfield 19, 3) := by decide +kernel
theorem dX3_coinFor_4 : decode cX3_coinFor 4 = .ok (.getfield 61, 3) := by decide +kernel
theorem dX3_coinFor_7 : decode cX3_coinFor 7 = .ok (.iload_n 2, 1) := by decide +kernel
theorem dX3_coinFor_8 : decode cX3_coinFor 8 = .ok (.iaload, 1) := by decide +kernel
theorem dX3_coinFor_9 : decode cX3_coinFor 9 = .ok (.istore_n 3, 1) := by decide +kernel
theorem dX3_coinFor_10 : decode cX3_coinFor 10 = .ok (.iload_n 3, 1) := by decide +kernel
theorem dX3_coinFor_11 : decode cX3_coinFor 11 = .ok (.iconst (-1), 1) := by decide +kernel
theorem dX3_coinFor_12 : decode cX3_coinFor 12 = .ok (.if_icmp .ne 27, 3) := by decide +kernel
theorem dX3_coinFor_15 : decode cX3_coinFor 15 = .ok (.aload_n 0, 1) := by decide +kernel
theorem dX3_coinFor_16 : decode cX3_coinFor 16 = .ok (.getfield 19, 3) := by decide +kernel
theorem dX3_coinFor_19 : decode cX3_coinFor 19 = .ok (.iload_n 2, 1) := by decide +kernel
theorem dX3_coinFor_20 : decode cX3_coinFor 20 = .ok (.invokevirtual 64, 3) := by decide +kernel
theorem dX3_coinFor_23 : decode cX3_coinFor 23 = .ok (.ifCond .eq 7, 3) := by decide +kernel
theorem dX3_coinFor_26 : decode cX3_coinFor 26 = .ok (.iconst (-1), 1) := by decide +kernel
theorem dX3_coinFor_27 : decode cX3_coinFor 27 = .ok (.goto 11, 3) := by decide +kernel
theorem dX3_coinFor_30 : decode cX3_coinFor 30 = .ok (.aload_n 0, 1) := by decide +kernel
theorem dX3_coinFor_31 : decode cX3_coinFor 31 = .ok (.getfield 19, 3) := by decide +kernel
theorem dX3_coinFor_34 : decode cX3_coinFor 34 = .ok (.iload_n 2, 1) := by decide +kernel
theorem dX3_coinFor_35 : decode cX3_coinFor 35 = .ok (.invokevirtual 68, 3) := by decide +kernel
theorem dX3_coinFor_38 : decode cX3_coinFor 38 = .ok (.ireturn, 1) := by decide +kernel
theorem dX3_coinFor_39 : decode cX3_coinFor 39 = .ok (.aload_n 0, 1) := by decide +kernel
theorem dX3_coinFor_40 : decode cX3_coinFor 40 = .ok (.getfield 19, 3) := by decide +kernel
theorem dX3_coinFor_43 : decode cX3_coinFor 43 = .ok (.iload_n 1, 1) := by decide +kernel
theorem dX3_coinFor_44 : decode cX3_coinFor 44 = .ok (.invokevirtual 72, 3) := by decide +kernel
theorem dX3_coinFor_47 : decode cX3_coinFor 47 = .ok (.ifCond .ne 14, 3) := by decide +kernel
theorem dX3_coinFor_50 : decode cX3_coinFor 50 = .ok (.aload_n 0, 1) := by decide +kernel
theorem dX3_coinFor_51 : decode cX3_coinFor 51 = .ok (.getfield 19, 3) := by decide +kernel
theorem dX3_coinFor_54 : decode cX3_coinFor 54 = .ok (.iload_n 3, 1) := by decide +kernel
theorem dX3_coinFor_55 : decode cX3_coinFor 55 = .ok (.invokevirtual 72, 3) := by decide +kernel
theorem dX3_coinFor_58 : decode cX3_coinFor 58 = .ok (.ifCond .eq 7, 3) := by decide +kernel
theorem dX3_coinFor_61 : decode cX3_coinFor 61 = .ok (.iconst (-1), 1) := by decide +kernel
theorem dX3_coinFor_62 : decode cX3_coinFor 62 = .ok (.goto 12, 3) := by decide +kernel
theorem dX3_coinFor_65 : decode cX3_coinFor 65 = .ok (.aload_n 0, 1) := by decide +kernel
theorem dX3_coinFor_66 : decode cX3_coinFor 66 = .ok (.getfield 15, 3) := by decide +kernel
theorem dX3_coinFor_69 : decode cX3_coinFor 69 = .ok (.getfield 75, 3) := by decide +kernel
theorem dX3_coinFor_72 : decode cX3_coinFor 72 = .ok (.iload_n 2, 1) := by decide +kernel
theorem dX3_coinFor_73 : decode cX3_coinFor 73 = .ok (.iaload, 1) := by decide +kernel
theorem dX3_coinFor_74 : decode cX3_coinFor 74 = .ok (.ireturn, 1) := by decide +kernel
theorem dX3_findBidder_0 : decode cX3_findBidder 0 = .ok (.iconst (-1), 1) := by decide +kernel
theorem dX3_findBidder_1 : decode cX3_findBidder 1 = .ok (.istore_n 2, 1) := by decide +kernel
theorem dX3_findBidder_2 : decode cX3_findBidder 2 = .ok (.iconst 0, 1) := by decide +kernel
theorem dX3_findBidder_3 : decode cX3_findBidder 3 = .ok (.istore_n 3, 1) := by decide +kernel
theorem dX3_findBidder_4 : decode cX3_findBidder 4 = .ok (.aload_n 0, 1) := by decide +kernel
theorem dX3_findBidder_5 : decode cX3_findBidder 5 = .ok (.iconst 0, 1) := by decide +kernel
theorem dX3_findBidder_6 : decode cX3_findBidder 6 = .ok (.putfield 23, 3) := by decide +kernel
theorem dX3_findBidder_9 : decode cX3_findBidder 9 = .ok (.iconst 0, 1) := by decide +kernel
theorem dX3_findBidder_10 : decode cX3_findBidder 10 = .ok (.istore 4, 2) := by decide +kernel
theorem dX3_findBidder_12 : decode cX3_findBidder 12 = .ok (.iload 4, 2) := by decide +kernel
theorem dX3_findBidder_14 : decode cX3_findBidder 14 = .ok (.aload_n 0, 1) := by decide +kernel
theorem dX3_findBidder_15 : decode cX3_findBidder 15 = .ok (.getfield 19, 3) := by decide +kernel
theorem dX3_findBidder_18 : decode cX3_findBidder 18 = .ok (.getfield 26, 3) := by decide +kernel
theorem dX3_findBidder_21 : decode cX3_findBidder 21 = .ok (.if_icmp .ge 93, 3) := by decide +kernel
theorem dX3_findBidder_24 : decode cX3_findBidder 24 = .ok (.aload_n 0, 1) := by decide +kernel
theorem dX3_findBidder_25 : decode cX3_findBidder 25 = .ok (.getfield 19, 3) := by decide +kernel
theorem dX3_findBidder_28 : decode cX3_findBidder 28 = .ok (.getfield 31, 3) := by decide +kernel
theorem dX3_findBidder_31 : decode cX3_findBidder 31 = .ok (.iload 4, 2) := by decide +kernel
theorem dX3_findBidder_33 : decode cX3_findBidder 33 = .ok (.iaload, 1) := by decide +kernel
theorem dX3_findBidder_34 : decode cX3_findBidder 34 = .ok (.istore 5, 2) := by decide +kernel
theorem dX3_findBidder_36 : decode cX3_findBidder 36 = .ok (.aload_n 0, 1) := by decide +kernel
theorem dX3_findBidder_37 : decode cX3_findBidder 37 = .ok (.getfield 15, 3) := by decide +kernel
theorem dX3_findBidder_40 : decode cX3_findBidder 40 = .ok (.iload 5, 2) := by decide +kernel
theorem dX3_findBidder_42 : decode cX3_findBidder 42 = .ok (.iload_n 1, 1) := by decide +kernel
theorem dX3_findBidder_43 : decode cX3_findBidder 43 = .ok (.invokevirtual 35, 3) := by decide +kernel
theorem dX3_findBidder_46 : decode cX3_findBidder 46 = .ok (.istore 6, 2) := by decide +kernel
theorem dX3_findBidder_48 : decode cX3_findBidder 48 = .ok (.iload 6, 2) := by decide +kernel
theorem dX3_findBidder_50 : decode cX3_findBidder 50 = .ok (.ifCond .le 58, 3) := by decide +kernel
theorem dX3_findBidder_53 : decode cX3_findBidder 53 = .ok (.iload 6, 2) := by decide +kernel
theorem dX3_findBidder_55 : decode cX3_findBidder 55 = .ok (.aload_n 0, 1) := by decide +kernel
theorem dX3_findBidder_56 : decode cX3_findBidder 56 = .ok (.getfield 19, 3) := by decide +kernel
theorem dX3_findBidder_59 : decode cX3_findBidder 59 = .ok (.getfield 41, 3) := by decide +kernel
theorem dX3_findBidder_62 : decode cX3_findBidder 62 = .ok (.iload 5, 2) := by decide +kernel
theorem dX3_findBidder_64 : decode cX3_findBidder 64 = .ok (.iaload, 1) := by decide +kernel
theorem dX3_findBidder_65 : decode cX3_findBidder 65 = .ok (.invokestatic 44, 3) := by decide +kernel
theorem dX3_findBidder_68 : decode cX3_findBidder 68 = .ok (.istore 7, 2) := by decide +kernel
theorem dX3_findBidder_70 : decode cX3_findBidder 70 = .ok (.iload_n 2, 1) := by decide +kernel
theorem dX3_findBidder_71 : decode cX3_findBidder 71 = .ok (.iconst (-1), 1) := by decide +kernel
theorem dX3_findBidder_72 : decode cX3_findBidder 72 = .ok (.if_icmp .eq 9, 3) := by decide +kernel
theorem dX3_findBidder_75 : decode cX3_findBidder 75 = .ok (.iload 7, 2) := by decide +kernel
theorem dX3_findBidder_77 : decode cX3_findBidder 77 = .ok (.iload_n 3, 1) := by decide +kernel
theorem dX3_findBidder_78 : decode cX3_findBidder 78 = .ok (.if_icmp .le 17, 3) := by decide +kernel
theorem dX3_findBidder_81 : decode cX3_findBidder 81 = .ok (.aload_n 0, 1) := by decide +kernel
theorem dX3_findBidder_82 : decode cX3_findBidder 82 = .ok (.iload_n 3, 1) := by decide +kernel
theorem dX3_findBidder_83 : decode cX3_findBidder 83 = .ok (.putfield 23, 3) := by decide +kernel
theorem dX3_findBidder_86 : decode cX3_findBidder 86 = .ok (.iload 7, 2) := by decide +kernel
theorem dX3_findBidder_88 : decode cX3_findBidder 88 = .ok (.istore_n 3, 1) := by decide +kernel
theorem dX3_findBidder_89 : decode cX3_findBidder 89 = .ok (.iload 5, 2) := by decide +kernel
theorem dX3_findBidder_91 : decode cX3_findBidder 91 = .ok (.istore_n 2, 1) := by decide +kernel
theorem dX3_findBidder_92 : decode cX3_findBidder 92 = .ok (.goto 16, 3) := by decide +kernel
theorem dX3_findBidder_95 : decode cX3_findBidder 95 = .ok (.aload_n 0, 1) := by decide +kernel
theorem dX3_findBidder_96 : decode cX3_findBidder 96 = .ok (.aload_n 0, 1) := by decide +kernel
theorem dX3_findBidder_97 : decode cX3_findBidder 97 = .ok (.getfield 23, 3) := by decide +kernel
theorem dX3_findBidder_100 : decode cX3_findBidder 100 = .ok (.iload 7, 2) := by decide +kernel
theorem dX3_findBidder_102 : decode cX3_findBidder 102 = .ok (.invokestatic 49, 3) := by decide +kernel
theorem dX3_findBidder_105 : decode cX3_findBidder 105 = .ok (.putfield 23, 3) := by decide +kernel
theorem dX3_findBidder_108 : decode cX3_findBidder 108 = .ok (.iinc 4 1, 3) := by decide +kernel
theorem dX3_findBidder_111 : decode cX3_findBidder 111 = .ok (.goto (-99), 3) := by decide +kernel
theorem dX3_findBidder_114 : decode cX3_findBidder 114 = .ok (.iload_n 2, 1) := by decide +kernel
theorem dX3_findBidder_115 : decode cX3_findBidder 115 = .ok (.ireturn, 1) := by decide +kernel
theorem dX3_findLeast_0 : decode cX3_findLeast 0 = .ok (.iconst (-1), 1) := by decide +kernel
theorem dX3_findLeast_1 : decode cX3_findLeast 1 = .ok (.istore_n 2, 1) := by decide +kernel
theorem dX3_findLeast_2 : decode cX3_findLeast 2 = .ok (.iconst 0, 1) := by decide +kernel
theorem dX3_findLeast_3 : decode cX3_findLeast 3 = .ok (.istore_n 3, 1) := by decide +kernel
theorem dX3_findLeast_4 : decode cX3_findLeast 4 = .ok (.iload_n 3, 1) := by decide +kernel
theorem dX3_findLeast_5 : decode cX3_findLeast 5 = .ok (.aload_n 0, 1) := by decide +kernel
theorem dX3_findLeast_6 : decode cX3_findLeast 6 = .ok (.getfield 15, 3) := by decide +kernel
theorem dX3_findLeast_9 : decode cX3_findLeast 9 = .ok (.getfield 52, 3) := by decide +kernel
theorem dX3_findLeast_12 : decode cX3_findLeast 12 = .ok (.if_icmp .ge 45, 3) := by decide +kernel
theorem dX3_findLeast_15 : decode cX3_findLeast 15 = .ok (.aload_n 0, 1) := by decide +kernel
theorem dX3_findLeast_16 : decode cX3_findLeast 16 = .ok (.iload_n 1, 1) := by decide +kernel
theorem dX3_findLeast_17 : decode cX3_findLeast 17 = .ok (.iload_n 3, 1) := by decide +kernel
theorem dX3_findLeast_18 : decode cX3_findLeast 18 = .ok (.invokevirtual 55, 3) := by decide +kernel
theorem dX3_findLeast_21 : decode cX3_findLeast 21 = .ok (.istore 4, 2) := by decide +kernel
theorem dX3_findLeast_23 : decode cX3_findLeast 23 = .ok (.iload 4, 2) := by decide +kernel
theorem dX3_findLeast_25 : decode cX3_findLeast 25 = .ok (.iconst (-1), 1) := by decide +kernel
theorem dX3_findLeast_26 : decode cX3_findLeast 26 = .ok (.if_icmp .eq 25, 3) := by decide +kernel
theorem dX3_findLeast_29 : decode cX3_findLeast 29 = .ok (.iload_n 2, 1) := by decide +kernel
theorem dX3_findLeast_30 : decode cX3_findLeast 30 = .ok (.iconst (-1), 1) := by decide +kernel
theorem dX3_findLeast_31 : decode cX3_findLeast 31 = .ok (.if_icmp .eq 12, 3) := by decide +kernel
theorem dX3_findLeast_34 : decode cX3_findLeast 34 = .ok (.iload 4, 2) := by decide +kernel
theorem dX3_findLeast_36 : decode cX3_findLeast 36 = .ok (.aload_n 0, 1) := by decide +kernel
theorem dX3_findLeast_37 : decode cX3_findLeast 37 = .ok (.getfield 58, 3) := by decide +kernel
theorem dX3_findLeast_40 : decode cX3_findLeast 40 = .ok (.if_icmp .ge 11, 3) := by decide +kernel
theorem dX3_findLeast_43 : decode cX3_findLeast 43 = .ok (.aload_n 0, 1) := by decide +kernel
theorem dX3_findLeast_44 : decode cX3_findLeast 44 = .ok (.iload 4, 2) := by decide +kernel
theorem dX3_findLeast_46 : decode cX3_findLeast 46 = .ok (.putfield 58, 3) := by decide +kernel
theorem dX3_findLeast_49 : decode cX3_findLeast 49 = .ok (.iload_n 3, 1) := by decide +kernel
theorem dX3_findLeast_50 : decode cX3_findLeast 50 = .ok (.istore_n 2, 1) := by decide +kernel
theorem dX3_findLeast_51 : decode cX3_findLeast 51 = .ok (.iinc 3 1, 3) := by decide +kernel
theorem dX3_findLeast_54 : decode cX3_findLeast 54 = .ok (.goto (-50), 3) := by decide +kernel
theorem dX3_findLeast_57 : decode cX3_findLeast 57 = .ok (.iload_n 2, 1) := by decide +kernel
theorem dX3_findLeast_58 : decode cX3_findLeast 58 = .ok (.iconst (-1), 1) := by decide +kernel
theorem dX3_findLeast_59 : decode cX3_findLeast 59 = .ok (.if_icmp .ne 5, 3) := by decide +kernel
theorem dX3_findLeast_62 : decode cX3_findLeast 62 = .ok (.iconst (-1), 1) := by decide +kernel
theorem dX3_findLeast_63 : decode cX3_findLeast 63 = .ok (.ireturn, 1) := by decide +kernel
theorem dX3_findLeast_64 : decode cX3_findLeast 64 = .ok (.aload_n 0, 1) := by decide +kernel
theorem dX3_findLeast_65 : decode cX3_findLeast 65 = .ok (.iload_n 2, 1) := by decide +kernel
theorem dX3_findLeast_66 : decode cX3_findLeast 66 = .ok (.putfield 9, 3) := by decide +kernel
theorem dX3_findLeast_69 : decode cX3_findLeast 69 = .ok (.aload_n 0, 1) := by decide +kernel
theorem dX3_findLeast_70 : decode cX3_findLeast 70 = .ok (.getfield 58, 3) := by decide +kernel
theorem dX3_findLeast_73 : decode cX3_findLeast 73 = .ok (.ireturn, 1) := by decide +kernel
theorem dX4_judge_0 : decode cX4_judge 0 = .ok (.aload_n 0, 1) := by decide +kernel
theorem dX4_judge_1 : decode cX4_judge 1 = .ok (.iconst 1, 1) := by decide +kernel
theorem dX4_judge_2 : decode cX4_judge 2 = .ok (.putfield 109, 3) := by decide +kernel
theorem dX4_judge_5 : decode cX4_judge 5 = .ok (.aload_n 0, 1) := by decide +kernel
theorem dX4_judge_6 : decode cX4_judge 6 = .ok (.iconst 0, 1) := by decide +kernel
theorem dX4_judge_7 : decode cX4_judge 7 = .ok (.putfield 113, 3) := by decide +kernel
theorem dX4_judge_10 : decode cX4_judge 10 = .ok (.aload_n 0, 1) := by decide +kernel
theorem dX4_judge_11 : decode cX4_judge 11 = .ok (.iconst 0, 1) := by decide +kernel
theorem dX4_judge_12 : decode cX4_judge 12 = .ok (.putfield 116, 3) := by decide +kernel
theorem dX4_judge_15 : decode cX4_judge 15 = .ok (.iconst 0, 1) := by decide +kernel
theorem dX4_judge_16 : decode cX4_judge 16 = .ok (.istore_n 2, 1) := by decide +kernel
theorem dX4_judge_17 : decode cX4_judge 17 = .ok (.iload_n 2, 1) := by decide +kernel
theorem dX4_judge_18 : decode cX4_judge 18 = .ok (.aload_n 0, 1) := by decide +kernel
theorem dX4_judge_19 : decode cX4_judge 19 = .ok (.getfield 29, 3) := by decide +kernel
theorem dX4_judge_22 : decode cX4_judge 22 = .ok (.if_icmp .ge 108, 3) := by decide +kernel
theorem dX4_judge_25 : decode cX4_judge 25 = .ok (.aload_n 0, 1) := by decide +kernel
theorem dX4_judge_26 : decode cX4_judge 26 = .ok (.getfield 113, 3) := by decide +kernel
theorem dX4_judge_29 : decode cX4_judge 29 = .ok (.ifCond .ne 101, 3) := by decide +kernel
theorem dX4_judge_32 : decode cX4_judge 32 = .ok (.aload_n 1, 1) := by decide +kernel
theorem dX4_judge_33 : decode cX4_judge 33 = .ok (.aload_n 0, 1) := by decide +kernel
theorem dX4_judge_34 : decode cX4_judge 34 = .ok (.getfield 11, 3) := by decide +kernel
theorem dX4_judge_37 : decode cX4_judge 37 = .ok (.iload_n 2, 1) := by decide +kernel
theorem dX4_judge_38 : decode cX4_judge 38 = .ok (.iaload, 1) := by decide +kernel
theorem dX4_judge_39 : decode cX4_judge 39 = .ok (.aload_n 0, 1) := by decide +kernel
theorem dX4_judge_40 : decode cX4_judge 40 = .ok (.getfield 15, 3) := by decide +kernel
theorem dX4_judge_43 : decode cX4_judge 43 = .ok (.iload_n 2, 1) := by decide +kernel
theorem dX4_judge_44 : decode cX4_judge 44 = .ok (.iaload, 1) := by decide +kernel
theorem dX4_judge_45 : decode cX4_judge 45 = .ok (.aload_n 0, 1) := by decide +kernel
theorem dX4_judge_46 : decode cX4_judge 46 = .ok (.getfield 18, 3) := by decide +kernel
theorem dX4_judge_49 : decode cX4_judge 49 = .ok (.iload_n 2, 1) := by decide +kernel
theorem dX4_judge_50 : decode cX4_judge 50 = .ok (.iaload, 1) := by decide +kernel
theorem dX4_judge_51 : decode cX4_judge 51 = .ok (.invokevirtual 119, 3) := by decide +kernel
theorem dX4_judge_54 : decode cX4_judge 54 = .ok (.istore_n 3, 1) := by decide +kernel
theorem dX4_judge_55 : decode cX4_judge 55 = .ok (.iload_n 3, 1) := by decide +kernel
theorem dX4_judge_56 : decode cX4_judge 56 = .ok (.ifCond .eq 36, 3) := by decide +kernel
theorem dX4_judge_59 : decode cX4_judge 59 = .ok (.aload_n 0, 1) := by decide +kernel
theorem dX4_judge_60 : decode cX4_judge 60 = .ok (.iload_n 3, 1) := by decide +kernel
theorem dX4_judge_61 : decode cX4_judge 61 = .ok (.bipush 10, 2) := by decide +kernel
theorem dX4_judge_63 : decode cX4_judge 63 = .ok (.aload_n 0, 1) := by decide +kernel
theorem dX4_judge_64 : decode cX4_judge 64 = .ok (.getfield 11, 3) := by decide +kernel
theorem dX4_judge_67 : decode cX4_judge 67 = .ok (.iload_n 2, 1) := by decide +kernel
theorem dX4_judge_68 : decode cX4_judge 68 = .ok (.iaload, 1) := by decide +kernel
theorem dX4_judge_69 : decode cX4_judge 69 = .ok (.bipush 7, 2) := by decide +kernel
theorem dX4_judge_71 : decode cX4_judge 71 = .ok (.if_icmp .ne 7, 3) := by decide +kernel
theorem dX4_judge_74 : decode cX4_judge 74 = .ok (.iconst 3, 1) := by decide +kernel
theorem dX4_judge_75 : decode cX4_judge 75 = .ok (.goto 9, 3) := by decide +kernel
theorem dX4_judge_78 : decode cX4_judge 78 = .ok (.aload_n 0, 1) := by decide +kernel
theorem dX4_judge_79 : decode cX4_judge 79 = .ok (.getfield 11, 3) := by decide +kernel
theorem dX4_judge_82 : decode cX4_judge 82 = .ok (.iload_n 2, 1) := by decide +kernel
theorem dX4_judge_83 : decode cX4_judge 83 = .ok (.iaload, 1) := by decide +kernel
theorem dX4_judge_84 : decode cX4_judge 84 = .ok (.imul, 1) := by decide +kernel
theorem dX4_judge_85 : decode cX4_judge 85 = .ok (.iadd, 1) := by decide +kernel
theorem dX4_judge_86 : decode cX4_judge 86 = .ok (.putfield 113, 3) := by decide +kernel
theorem dX4_judge_89 : decode cX4_judge 89 = .ok (.goto 35, 3) := by decide +kernel
theorem dX4_judge_92 : decode cX4_judge 92 = .ok (.aload_n 1, 1) := by decide +kernel
theorem dX4_judge_93 : decode cX4_judge 93 = .ok (.aload_n 0, 1) := by decide +kernel
theorem dX4_judge_94 : decode cX4_judge 94 = .ok (.getfield 11, 3) := by decide +kernel
theorem dX4_judge_97 : decode cX4_judge 97 = .ok (.iload_n 2, 1) := by decide +kernel
theorem dX4_judge_98 : decode cX4_judge 98 = .ok (.iaload, 1) := by decide +kernel
theorem dX4_judge_99 : decode cX4_judge 99 = .ok (.aload_n 0, 1) := by decide +kernel
theorem dX4_judge_100 : decode cX4_judge 100 = .ok (.getfield 15, 3) := by decide +kernel
theorem dX4_judge_103 : decode cX4_judge 103 = .ok (.iload_n 2, 1) := by decide +kernel
theorem dX4_judge_104 : decode cX4_judge 104 = .ok (.iaload, 1) := by decide +kernel
theorem dX4_judge_105 : decode cX4_judge 105 = .ok (.aload_n 0, 1) := by decide +kernel
theorem dX4_judge_106 : decode cX4_judge 106 = .ok (.getfield 18, 3) := by decide +kernel
theorem dX4_judge_109 : decode cX4_judge 109 = .ok (.iload_n 2, 1) := by decide +kernel
theorem dX4_judge_110 : decode cX4_judge 110 = .ok (.iaload, 1) := by decide +kernel
theorem dX4_judge_111 : decode cX4_judge 111 = .ok (.invokevirtual 125, 3) := by decide +kernel
theorem dX4_judge_114 : decode cX4_judge 114 = .ok (.aload_n 0, 1) := by decide +kernel
theorem dX4_judge_115 : decode cX4_judge 115 = .ok (.dup, 1) := by decide +kernel
