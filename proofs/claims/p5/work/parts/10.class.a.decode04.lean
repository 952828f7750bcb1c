theorem dX11_party_2 : decode cX11_party 2 = .ok (.iconst 0, 1) := by decide +kernel
theorem dX11_party_3 : decode cX11_party 3 = .ok (.istore_n 2, 1) := by decide +kernel
theorem dX11_party_4 : decode cX11_party 4 = .ok (.iload_n 2, 1) := by decide +kernel
theorem dX11_party_5 : decode cX11_party 5 = .ok (.iconst 1, 1) := by decide +kernel
theorem dX11_party_6 : decode cX11_party 6 = .ok (.aload_n 0, 1) := by decide +kernel
theorem dX11_party_7 : decode cX11_party 7 = .ok (.getfield 19, 3) := by decide +kernel
theorem dX11_party_10 : decode cX11_party 10 = .ok (.getfield 216, 3) := by decide +kernel
theorem dX11_party_13 : decode cX11_party 13 = .ok (.ishl, 1) := by decide +kernel
theorem dX11_party_14 : decode cX11_party 14 = .ok (.if_icmp .ge 74, 3) := by decide +kernel
theorem dX11_party_17 : decode cX11_party 17 = .ok (.iload_n 2, 1) := by decide +kernel
theorem dX11_party_18 : decode cX11_party 18 = .ok (.aload_n 0, 1) := by decide +kernel
theorem dX11_party_19 : decode cX11_party 19 = .ok (.getfield 40, 3) := by decide +kernel
theorem dX11_party_22 : decode cX11_party 22 = .ok (.getfield 206, 3) := by decide +kernel
theorem dX11_party_25 : decode cX11_party 25 = .ok (.iconst (-1), 1) := by decide +kernel
theorem dX11_party_26 : decode cX11_party 26 = .ok (.ixor, 1) := by decide +kernel
theorem dX11_party_27 : decode cX11_party 27 = .ok (.iand, 1) := by decide +kernel
theorem dX11_party_28 : decode cX11_party 28 = .ok (.ifCond .ne 7, 3) := by decide +kernel
theorem dX11_party_31 : decode cX11_party 31 = .ok (.iconst 1, 1) := by decide +kernel
theorem dX11_party_32 : decode cX11_party 32 = .ok (.goto 4, 3) := by decide +kernel
theorem dX11_party_35 : decode cX11_party 35 = .ok (.iconst 0, 1) := by decide +kernel
theorem dX11_party_36 : decode cX11_party 36 = .ok (.istore_n 3, 1) := by decide +kernel
theorem dX11_party_37 : decode cX11_party 37 = .ok (.iload_n 1, 1) := by decide +kernel
theorem dX11_party_38 : decode cX11_party 38 = .ok (.iconst (-1), 1) := by decide +kernel
theorem dX11_party_39 : decode cX11_party 39 = .ok (.if_icmp .eq 14, 3) := by decide +kernel
theorem dX11_party_42 : decode cX11_party 42 = .ok (.iload_n 2, 1) := by decide +kernel
theorem dX11_party_43 : decode cX11_party 43 = .ok (.invokestatic 302, 3) := by decide +kernel
theorem dX11_party_46 : decode cX11_party 46 = .ok (.iload_n 1, 1) := by decide +kernel
theorem dX11_party_47 : decode cX11_party 47 = .ok (.invokestatic 302, 3) := by decide +kernel
theorem dX11_party_50 : decode cX11_party 50 = .ok (.if_icmp .ge 7, 3) := by decide +kernel
theorem dX11_party_53 : decode cX11_party 53 = .ok (.iconst 1, 1) := by decide +kernel
theorem dX11_party_54 : decode cX11_party 54 = .ok (.goto 4, 3) := by decide +kernel
theorem dX11_party_57 : decode cX11_party 57 = .ok (.iconst 0, 1) := by decide +kernel
theorem dX11_party_58 : decode cX11_party 58 = .ok (.istore 4, 2) := by decide +kernel
theorem dX11_party_60 : decode cX11_party 60 = .ok (.iload_n 3, 1) := by decide +kernel
theorem dX11_party_61 : decode cX11_party 61 = .ok (.ifCond .eq 21, 3) := by decide +kernel
theorem dX11_party_64 : decode cX11_party 64 = .ok (.iload 4, 2) := by decide +kernel
theorem dX11_party_66 : decode cX11_party 66 = .ok (.ifCond .eq 16, 3) := by decide +kernel
theorem dX11_party_69 : decode cX11_party 69 = .ok (.aload_n 0, 1) := by decide +kernel
theorem dX11_party_70 : decode cX11_party 70 = .ok (.getfield 40, 3) := by decide +kernel
theorem dX11_party_73 : decode cX11_party 73 = .ok (.iload_n 2, 1) := by decide +kernel
theorem dX11_party_74 : decode cX11_party 74 = .ok (.invokevirtual 299, 3) := by decide +kernel
theorem dX11_party_77 : decode cX11_party 77 = .ok (.ifCond .eq 5, 3) := by decide +kernel
theorem dX11_party_80 : decode cX11_party 80 = .ok (.iload_n 2, 1) := by decide +kernel
theorem dX11_party_81 : decode cX11_party 81 = .ok (.istore_n 1, 1) := by decide +kernel
theorem dX11_party_82 : decode cX11_party 82 = .ok (.iinc 2 1, 3) := by decide +kernel
theorem dX11_party_85 : decode cX11_party 85 = .ok (.goto (-81), 3) := by decide +kernel
theorem dX11_party_88 : decode cX11_party 88 = .ok (.iload_n 1, 1) := by decide +kernel
theorem dX11_party_89 : decode cX11_party 89 = .ok (.ireturn, 1) := by decide +kernel
theorem dX11_pay_0 : decode cX11_pay 0 = .ok (.aload_n 0, 1) := by decide +kernel
theorem dX11_pay_1 : decode cX11_pay 1 = .ok (.getfield 19, 3) := by decide +kernel
theorem dX11_pay_4 : decode cX11_pay 4 = .ok (.iload_n 1, 1) := by decide +kernel
theorem dX11_pay_5 : decode cX11_pay 5 = .ok (.invokevirtual 169, 3) := by decide +kernel
theorem dX11_pay_8 : decode cX11_pay 8 = .ok (.ifCond .eq 24, 3) := by decide +kernel
theorem dX11_pay_11 : decode cX11_pay 11 = .ok (.iload_n 2, 1) := by decide +kernel
theorem dX11_pay_12 : decode cX11_pay 12 = .ok (.iconst 1, 1) := by decide +kernel
theorem dX11_pay_13 : decode cX11_pay 13 = .ok (.if_icmp .lt 19, 3) := by decide +kernel
theorem dX11_pay_16 : decode cX11_pay 16 = .ok (.iload_n 2, 1) := by decide +kernel
theorem dX11_pay_17 : decode cX11_pay 17 = .ok (.bipush 99, 2) := by decide +kernel
theorem dX11_pay_19 : decode cX11_pay 19 = .ok (.if_icmp .gt 13, 3) := by decide +kernel
theorem dX11_pay_22 : decode cX11_pay 22 = .ok (.aload_n 0, 1) := by decide +kernel
theorem dX11_pay_23 : decode cX11_pay 23 = .ok (.iconst 5, 1) := by decide +kernel
theorem dX11_pay_24 : decode cX11_pay 24 = .ok (.iload_n 1, 1) := by decide +kernel
theorem dX11_pay_25 : decode cX11_pay 25 = .ok (.iload_n 2, 1) := by decide +kernel
theorem dX11_pay_26 : decode cX11_pay 26 = .ok (.invokevirtual 229, 3) := by decide +kernel
theorem dX11_pay_29 : decode cX11_pay 29 = .ok (.goto 4, 3) := by decide +kernel
theorem dX11_pay_32 : decode cX11_pay 32 = .ok (.iconst (-1), 1) := by decide +kernel
theorem dX11_pay_33 : decode cX11_pay 33 = .ok (.ireturn, 1) := by decide +kernel
theorem dX11_placeOfBit_0 : decode cX11_placeOfBit 0 = .ok (.iconst 0, 1) := by decide +kernel
theorem dX11_placeOfBit_1 : decode cX11_placeOfBit 1 = .ok (.istore_n 2, 1) := by decide +kernel
theorem dX11_placeOfBit_2 : decode cX11_placeOfBit 2 = .ok (.iconst 0, 1) := by decide +kernel
theorem dX11_placeOfBit_3 : decode cX11_placeOfBit 3 = .ok (.istore_n 3, 1) := by decide +kernel
theorem dX11_placeOfBit_4 : decode cX11_placeOfBit 4 = .ok (.iload_n 3, 1) := by decide +kernel
theorem dX11_placeOfBit_5 : decode cX11_placeOfBit 5 = .ok (.bipush 9, 2) := by decide +kernel
theorem dX11_placeOfBit_7 : decode cX11_placeOfBit 7 = .ok (.if_icmp .ge 27, 3) := by decide +kernel
theorem dX11_placeOfBit_10 : decode cX11_placeOfBit 10 = .ok (.iload_n 0, 1) := by decide +kernel
theorem dX11_placeOfBit_11 : decode cX11_placeOfBit 11 = .ok (.iload_n 3, 1) := by decide +kernel
theorem dX11_placeOfBit_12 : decode cX11_placeOfBit 12 = .ok (.invokestatic 374, 3) := by decide +kernel
theorem dX11_placeOfBit_15 : decode cX11_placeOfBit 15 = .ok (.ifCond .eq 13, 3) := by decide +kernel
theorem dX11_placeOfBit_18 : decode cX11_placeOfBit 18 = .ok (.iload_n 2, 1) := by decide +kernel
theorem dX11_placeOfBit_19 : decode cX11_placeOfBit 19 = .ok (.iload_n 1, 1) := by decide +kernel
theorem dX11_placeOfBit_20 : decode cX11_placeOfBit 20 = .ok (.if_icmp .ne 5, 3) := by decide +kernel
theorem dX11_placeOfBit_23 : decode cX11_placeOfBit 23 = .ok (.iload_n 3, 1) := by decide +kernel
theorem dX11_placeOfBit_24 : decode cX11_placeOfBit 24 = .ok (.ireturn, 1) := by decide +kernel
theorem dX11_placeOfBit_25 : decode cX11_placeOfBit 25 = .ok (.iinc 2 1, 3) := by decide +kernel
theorem dX11_placeOfBit_28 : decode cX11_placeOfBit 28 = .ok (.iinc 3 1, 3) := by decide +kernel
theorem dX11_placeOfBit_31 : decode cX11_placeOfBit 31 = .ok (.goto (-27), 3) := by decide +kernel
theorem dX11_placeOfBit_34 : decode cX11_placeOfBit 34 = .ok (.iconst (-1), 1) := by decide +kernel
theorem dX11_placeOfBit_35 : decode cX11_placeOfBit 35 = .ok (.ireturn, 1) := by decide +kernel
theorem dX11_queue_0 : decode cX11_queue 0 = .ok (.iload_n 1, 1) := by decide +kernel
theorem dX11_queue_1 : decode cX11_queue 1 = .ok (.ifCond .lt 26, 3) := by decide +kernel
theorem dX11_queue_4 : decode cX11_queue 4 = .ok (.iload_n 1, 1) := by decide +kernel
theorem dX11_queue_5 : decode cX11_queue 5 = .ok (.aload_n 0, 1) := by decide +kernel
theorem dX11_queue_6 : decode cX11_queue 6 = .ok (.getfield 40, 3) := by decide +kernel
theorem dX11_queue_9 : decode cX11_queue 9 = .ok (.getfield 213, 3) := by decide +kernel
theorem dX11_queue_12 : decode cX11_queue 12 = .ok (.if_icmp .ge 15, 3) := by decide +kernel
theorem dX11_queue_15 : decode cX11_queue 15 = .ok (.aload_n 0, 1) := by decide +kernel
theorem dX11_queue_16 : decode cX11_queue 16 = .ok (.getfield 40, 3) := by decide +kernel
theorem dX11_queue_19 : decode cX11_queue 19 = .ok (.getfield 319, 3) := by decide +kernel
theorem dX11_queue_22 : decode cX11_queue 22 = .ok (.iload_n 1, 1) := by decide +kernel
theorem dX11_queue_23 : decode cX11_queue 23 = .ok (.iaload, 1) := by decide +kernel
theorem dX11_queue_24 : decode cX11_queue 24 = .ok (.goto 4, 3) := by decide +kernel
theorem dX11_queue_27 : decode cX11_queue 27 = .ok (.iconst (-1), 1) := by decide +kernel
theorem dX11_queue_28 : decode cX11_queue 28 = .ok (.ireturn, 1) := by decide +kernel
theorem dX11_restore_0 : decode cX11_restore 0 = .ok (.iload_n 1, 1) := by decide +kernel
theorem dX11_restore_1 : decode cX11_restore 1 = .ok (.ifCond .lt 20, 3) := by decide +kernel
theorem dX11_restore_4 : decode cX11_restore 4 = .ok (.iload_n 1, 1) := by decide +kernel
theorem dX11_restore_5 : decode cX11_restore 5 = .ok (.iconst 2, 1) := by decide +kernel
theorem dX11_restore_6 : decode cX11_restore 6 = .ok (.if_icmp .ge 15, 3) := by decide +kernel
theorem dX11_restore_9 : decode cX11_restore 9 = .ok (.aload_n 0, 1) := by decide +kernel
theorem dX11_restore_10 : decode cX11_restore 10 = .ok (.getfield 96, 3) := by decide +kernel
theorem dX11_restore_13 : decode cX11_restore 13 = .ok (.iload_n 1, 1) := by decide +kernel
theorem dX11_restore_14 : decode cX11_restore 14 = .ok (.aaload, 1) := by decide +kernel
theorem dX11_restore_15 : decode cX11_restore 15 = .ok (.getfield 361, 3) := by decide +kernel
theorem dX11_restore_18 : decode cX11_restore 18 = .ok (.ifCond .ne 5, 3) := by decide +kernel
theorem dX11_restore_21 : decode cX11_restore 21 = .ok (.iconst 0, 1) := by decide +kernel
theorem dX11_restore_22 : decode cX11_restore 22 = .ok (.ireturn, 1) := by decide +kernel
theorem dX11_restore_23 : decode cX11_restore 23 = .ok (.aload_n 0, 1) := by decide +kernel
theorem dX11_restore_24 : decode cX11_restore 24 = .ok (.getfield 19, 3) := by decide +kernel
theorem dX11_restore_27 : decode cX11_restore 27 = .ok (.aload_n 0, 1) := by decide +kernel
theorem dX11_restore_28 : decode cX11_restore 28 = .ok (.getfield 96, 3) := by decide +kernel
theorem dX11_restore_31 : decode cX11_restore 31 = .ok (.iload_n 1, 1) := by decide +kernel
theorem dX11_restore_32 : decode cX11_restore 32 = .ok (.aaload, 1) := by decide +kernel
theorem dX11_restore_33 : decode cX11_restore 33 = .ok (.getfield 358, 3) := by decide +kernel
theorem dX11_restore_36 : decode cX11_restore 36 = .ok (.invokevirtual 128, 3) := by decide +kernel
theorem dX11_restore_39 : decode cX11_restore 39 = .ok (.aload_n 0, 1) := by decide +kernel
theorem dX11_restore_40 : decode cX11_restore 40 = .ok (.getfield 40, 3) := by decide +kernel
theorem dX11_restore_43 : decode cX11_restore 43 = .ok (.aload_n 0, 1) := by decide +kernel
theorem dX11_restore_44 : decode cX11_restore 44 = .ok (.getfield 96, 3) := by decide +kernel
theorem dX11_restore_47 : decode cX11_restore 47 = .ok (.iload_n 1, 1) := by decide +kernel
theorem dX11_restore_48 : decode cX11_restore 48 = .ok (.aaload, 1) := by decide +kernel
theorem dX11_restore_49 : decode cX11_restore 49 = .ok (.getfield 359, 3) := by decide +kernel
theorem dX11_restore_52 : decode cX11_restore 52 = .ok (.invokevirtual 325, 3) := by decide +kernel
theorem dX11_restore_55 : decode cX11_restore 55 = .ok (.aload_n 0, 1) := by decide +kernel
theorem dX11_restore_56 : decode cX11_restore 56 = .ok (.getfield 64, 3) := by decide +kernel
theorem dX11_restore_59 : decode cX11_restore 59 = .ok (.aload_n 0, 1) := by decide +kernel
theorem dX11_restore_60 : decode cX11_restore 60 = .ok (.getfield 96, 3) := by decide +kernel
theorem dX11_restore_63 : decode cX11_restore 63 = .ok (.iload_n 1, 1) := by decide +kernel
theorem dX11_restore_64 : decode cX11_restore 64 = .ok (.aaload, 1) := by decide +kernel
theorem dX11_restore_65 : decode cX11_restore 65 = .ok (.getfield 360, 3) := by decide +kernel
theorem dX11_restore_68 : decode cX11_restore 68 = .ok (.invokevirtual 349, 3) := by decide +kernel
theorem dX11_restore_71 : decode cX11_restore 71 = .ok (.aload_n 0, 1) := by decide +kernel
theorem dX11_restore_72 : decode cX11_restore 72 = .ok (.getfield 50, 3) := by decide +kernel
theorem dX11_restore_75 : decode cX11_restore 75 = .ok (.invokevirtual 134, 3) := by decide +kernel
theorem dX11_restore_78 : decode cX11_restore 78 = .ok (.iconst 1, 1) := by decide +kernel
theorem dX11_restore_79 : decode cX11_restore 79 = .ok (.ireturn, 1) := by decide +kernel
theorem dX11_roll_0 : decode cX11_roll 0 = .ok (.iload_n 1, 1) := by decide +kernel
theorem dX11_roll_1 : decode cX11_roll 1 = .ok (.ifCond .lt 8, 3) := by decide +kernel
theorem dX11_roll_4 : decode cX11_roll 4 = .ok (.iload_n 1, 1) := by decide +kernel
theorem dX11_roll_5 : decode cX11_roll 5 = .ok (.iconst 1, 1) := by decide +kernel
theorem dX11_roll_6 : decode cX11_roll 6 = .ok (.if_icmp .le 7, 3) := by decide +kernel
theorem dX11_roll_9 : decode cX11_roll 9 = .ok (.sipush (-1000), 3) := by decide +kernel
theorem dX11_roll_12 : decode cX11_roll 12 = .ok (.ireturn, 1) := by decide +kernel
theorem dX11_roll_13 : decode cX11_roll 13 = .ok (.aload_n 0, 1) := by decide +kernel
theorem dX11_roll_14 : decode cX11_roll 14 = .ok (.getfield 57, 3) := by decide +kernel
theorem dX11_roll_17 : decode cX11_roll 17 = .ok (.invokevirtual 327, 3) := by decide +kernel
theorem dX11_roll_20 : decode cX11_roll 20 = .ok (.istore_n 2, 1) := by decide +kernel
theorem dX11_roll_21 : decode cX11_roll 21 = .ok (.aload_n 0, 1) := by decide +kernel
theorem dX11_roll_22 : decode cX11_roll 22 = .ok (.getfield 10, 3) := by decide +kernel
theorem dX11_roll_25 : decode cX11_roll 25 = .ok (.iconst 0, 1) := by decide +kernel
theorem dX11_roll_26 : decode cX11_roll 26 = .ok (.putfield 111, 3) := by decide +kernel
theorem dX11_roll_29 : decode cX11_roll 29 = .ok (.aload_n 0, 1) := by decide +kernel
theorem dX11_roll_30 : decode cX11_roll 30 = .ok (.aload_n 0, 1) := by decide +kernel
theorem dX11_roll_31 : decode cX11_roll 31 = .ok (.getfield 10, 3) := by decide +kernel
theorem dX11_roll_34 : decode cX11_roll 34 = .ok (.getfield 119, 3) := by decide +kernel
theorem dX11_roll_37 : decode cX11_roll 37 = .ok (.putfield 122, 3) := by decide +kernel
theorem dX11_roll_40 : decode cX11_roll 40 = .ok (.iload_n 2, 1) := by decide +kernel
theorem dX11_roll_41 : decode cX11_roll 41 = .ok (.ifCond .ne 14, 3) := by decide +kernel
theorem dX11_roll_44 : decode cX11_roll 44 = .ok (.bipush (-2), 2) := by decide +kernel
theorem dX11_roll_46 : decode cX11_roll 46 = .ok (.aload_n 0, 1) := by decide +kernel
theorem dX11_roll_47 : decode cX11_roll 47 = .ok (.getfield 10, 3) := by decide +kernel
theorem dX11_roll_50 : decode cX11_roll 50 = .ok (.getfield 125, 3) := by decide +kernel
theorem dX11_roll_53 : decode cX11_roll 53 = .ok (.isub, 1) := by decide +kernel
theorem dX11_roll_54 : decode cX11_roll 54 = .ok (.ireturn, 1) := by decide +kernel
theorem dX11_roll_55 : decode cX11_roll 55 = .ok (.iload_n 1, 1) := by decide +kernel
theorem dX11_roll_56 : decode cX11_roll 56 = .ok (.iconst 1, 1) := by decide +kernel
theorem dX11_roll_57 : decode cX11_roll 57 = .ok (.if_icmp .ne 26, 3) := by decide +kernel
theorem dX11_roll_60 : decode cX11_roll 60 = .ok (.aload_n 0, 1) := by decide +kernel
theorem dX11_roll_61 : decode cX11_roll 61 = .ok (.getfield 50, 3) := by decide +kernel
theorem dX11_roll_64 : decode cX11_roll 64 = .ok (.aload_n 0, 1) := by decide +kernel
theorem dX11_roll_65 : decode cX11_roll 65 = .ok (.getfield 40, 3) := by decide +kernel
theorem dX11_roll_68 : decode cX11_roll 68 = .ok (.invokevirtual 237, 3) := by decide +kernel
theorem dX11_roll_71 : decode cX11_roll 71 = .ok (.aload_n 0, 1) := by decide +kernel
theorem dX11_roll_72 : decode cX11_roll 72 = .ok (.getfield 57, 3) := by decide +kernel
theorem dX11_roll_75 : decode cX11_roll 75 = .ok (.aload_n 0, 1) := by decide +kernel
theorem dX11_roll_76 : decode cX11_roll 76 = .ok (.getfield 40, 3) := by decide +kernel
theorem dX11_roll_79 : decode cX11_roll 79 = .ok (.invokevirtual 328, 3) := by decide +kernel
theorem dX11_roll_82 : decode cX11_roll 82 = .ok (.ireturn, 1) := by decide +kernel
theorem dX11_roll_83 : decode cX11_roll 83 = .ok (.aload_n 0, 1) := by decide +kernel
theorem dX11_roll_84 : decode cX11_roll 84 = .ok (.getfield 44, 3) := by decide +kernel
theorem dX11_roll_87 : decode cX11_roll 87 = .ok (.aload_n 0, 1) := by decide +kernel
theorem dX11_roll_88 : decode cX11_roll 88 = .ok (.getfield 40, 3) := by decide +kernel
theorem dX11_roll_91 : decode cX11_roll 91 = .ok (.invokevirtual 325, 3) := by decide +kernel
theorem dX11_roll_94 : decode cX11_roll 94 = .ok (.aload_n 0, 1) := by decide +kernel
theorem dX11_roll_95 : decode cX11_roll 95 = .ok (.getfield 57, 3) := by decide +kernel
theorem dX11_roll_98 : decode cX11_roll 98 = .ok (.aload_n 0, 1) := by decide +kernel
theorem dX11_roll_99 : decode cX11_roll 99 = .ok (.getfield 44, 3) := by decide +kernel
theorem dX11_roll_102 : decode cX11_roll 102 = .ok (.invokevirtual 328, 3) := by decide +kernel
theorem dX11_roll_105 : decode cX11_roll 105 = .ok (.ireturn, 1) := by decide +kernel
theorem dX11_rolled_0 : decode cX11_rolled 0 = .ok (.aload_n 0, 1) := by decide +kernel
theorem dX11_rolled_1 : decode cX11_rolled 1 = .ok (.getfield 57, 3) := by decide +kernel
theorem dX11_rolled_4 : decode cX11_rolled 4 = .ok (.getfield 332, 3) := by decide +kernel
theorem dX11_rolled_7 : decode cX11_rolled 7 = .ok (.ifCond .ne 5, 3) := by decide +kernel
theorem dX11_rolled_10 : decode cX11_rolled 10 = .ok (.iconst (-1), 1) := by decide +kernel
theorem dX11_rolled_11 : decode cX11_rolled 11 = .ok (.ireturn, 1) := by decide +kernel
theorem dX11_rolled_12 : decode cX11_rolled 12 = .ok (.iload_n 1, 1) := by decide +kernel
theorem dX11_rolled_13 : decode cX11_rolled 13 = .ok (.tableswitch 63 0 3 #[31, 39, 47, 55], 31) := by decide +kernel
theorem dX11_rolled_44 : decode cX11_rolled 44 = .ok (.aload_n 0, 1) := by decide +kernel
theorem dX11_rolled_45 : decode cX11_rolled 45 = .ok (.getfield 57, 3) := by decide +kernel
theorem dX11_rolled_48 : decode cX11_rolled 48 = .ok (.getfield 336, 3) := by decide +kernel
theorem dX11_rolled_51 : decode cX11_rolled 51 = .ok (.ireturn, 1) := by decide +kernel
theorem dX11_rolled_52 : decode cX11_rolled 52 = .ok (.aload_n 0, 1) := by decide +kernel
theorem dX11_rolled_53 : decode cX11_rolled 53 = .ok (.getfield 57, 3) := by decide +kernel
theorem dX11_rolled_56 : decode cX11_rolled 56 = .ok (.getfield 339, 3) := by decide +kernel
theorem dX11_rolled_59 : decode cX11_rolled 59 = .ok (.ireturn, 1) := by decide +kernel
theorem dX11_rolled_60 : decode cX11_rolled 60 = .ok (.aload_n 0, 1) := by decide +kernel
theorem dX11_rolled_61 : decode cX11_rolled 61 = .ok (.getfield 57, 3) := by decide +kernel
theorem dX11_rolled_64 : decode cX11_rolled 64 = .ok (.getfield 342, 3) := by decide +kernel
theorem dX11_rolled_67 : decode cX11_rolled 67 = .ok (.ireturn, 1) := by decide +kernel
theorem dX11_rolled_68 : decode cX11_rolled 68 = .ok (.aload_n 0, 1) := by decide +kernel
theorem dX11_rolled_69 : decode cX11_rolled 69 = .ok (.getfield 57, 3) := by decide +kernel
theorem dX11_rolled_72 : decode cX11_rolled 72 = .ok (.getfield 345, 3) := by decide +kernel
theorem dX11_rolled_75 : decode cX11_rolled 75 = .ok (.ireturn, 1) := by decide +kernel
theorem dX11_rolled_76 : decode cX11_rolled 76 = .ok (.iconst (-1), 1) := by decide +kernel
theorem dX11_rolled_77 : decode cX11_rolled 77 = .ok (.ireturn, 1) := by decide +kernel
theorem dX11_said_0 : decode cX11_said 0 = .ok (.aload_n 0, 1) := by decide +kernel
theorem dX11_said_1 : decode cX11_said 1 = .ok (.getfield 64, 3) := by decide +kernel
theorem dX11_said_4 : decode cX11_said 4 = .ok (.getfield 137, 3) := by decide +kernel
theorem dX11_said_7 : decode cX11_said 7 = .ok (.ifCond .ne 5, 3) := by decide +kernel
theorem dX11_said_10 : decode cX11_said 10 = .ok (.iconst (-1), 1) := by decide +kernel
theorem dX11_said_11 : decode cX11_said 11 = .ok (.ireturn, 1) := by decide +kernel
theorem dX11_said_12 : decode cX11_said 12 = .ok (.aload_n 0, 1) := by decide +kernel
theorem dX11_said_13 : decode cX11_said 13 = .ok (.getfield 64, 3) := by decide +kernel
theorem dX11_said_16 : decode cX11_said 16 = .ok (.aload_n 0, 1) := by decide +kernel
theorem dX11_said_17 : decode cX11_said 17 = .ok (.getfield 40, 3) := by decide +kernel
theorem dX11_said_20 : decode cX11_said 20 = .ok (.invokevirtual 352, 3) := by decide +kernel
theorem dX11_said_23 : decode cX11_said 23 = .ok (.istore_n 2, 1) := by decide +kernel
theorem dX11_said_24 : decode cX11_said 24 = .ok (.iload_n 1, 1) := by decide +kernel
theorem dX11_said_25 : decode cX11_said 25 = .ok (.iconst (-1), 1) := by decide +kernel
theorem dX11_said_26 : decode cX11_said 26 = .ok (.if_icmp .ne 10, 3) := by decide +kernel
theorem dX11_said_29 : decode cX11_said 29 = .ok (.iload_n 2, 1) := by decide +kernel
theorem dX11_said_30 : decode cX11_said 30 = .ok (.invokestatic 302, 3) := by decide +kernel
theorem dX11_said_33 : decode cX11_said 33 = .ok (.goto 8, 3) := by decide +kernel
theorem dX11_said_36 : decode cX11_said 36 = .ok (.iload_n 2, 1) := by decide +kernel
theorem dX11_said_37 : decode cX11_said 37 = .ok (.iload_n 1, 1) := by decide +kernel
theorem dX11_said_38 : decode cX11_said 38 = .ok (.invokestatic 355, 3) := by decide +kernel
theorem dX11_said_41 : decode cX11_said 41 = .ok (.ireturn, 1) := by decide +kernel
theorem dX11_sell_0 : decode cX11_sell 0 = .ok (.aload_n 0, 1) := by decide +kernel
theorem dX11_sell_1 : decode cX11_sell 1 = .ok (.iload_n 1, 1) := by decide +kernel
theorem dX11_sell_2 : decode cX11_sell 2 = .ok (.iload_n 2, 1) := by decide +kernel
theorem dX11_sell_3 : decode cX11_sell 3 = .ok (.invokevirtual 233, 3) := by decide +kernel
theorem dX11_sell_6 : decode cX11_sell 6 = .ok (.ifCond .eq 13, 3) := by decide +kernel
theorem dX11_sell_9 : decode cX11_sell 9 = .ok (.aload_n 0, 1) := by decide +kernel
theorem dX11_sell_10 : decode cX11_sell 10 = .ok (.iconst 2, 1) := by decide +kernel
theorem dX11_sell_11 : decode cX11_sell 11 = .ok (.iload_n 1, 1) := by decide +kernel
theorem dX11_sell_12 : decode cX11_sell 12 = .ok (.iload_n 2, 1) := by decide +kernel
theorem dX11_sell_13 : decode cX11_sell 13 = .ok (.invokevirtual 229, 3) := by decide +kernel
theorem dX11_sell_16 : decode cX11_sell 16 = .ok (.goto 4, 3) := by decide +kernel
theorem dX11_sell_19 : decode cX11_sell 19 = .ok (.iconst (-1), 1) := by decide +kernel
theorem dX11_sell_20 : decode cX11_sell 20 = .ok (.ireturn, 1) := by decide +kernel
theorem dX11_sentence_0 : decode cX11_sentence 0 = .ok (.aload_n 0, 1) := by decide +kernel
theorem dX11_sentence_1 : decode cX11_sentence 1 = .ok (.getfield 68, 3) := by decide +kernel
theorem dX11_sentence_4 : decode cX11_sentence 4 = .ok (.invokevirtual 348, 3) := by decide +kernel
theorem dX11_sentence_7 : decode cX11_sentence 7 = .ok (.istore_n 1, 1) := by decide +kernel
theorem dX11_sentence_8 : decode cX11_sentence 8 = .ok (.aload_n 0, 1) := by decide +kernel
theorem dX11_sentence_9 : decode cX11_sentence 9 = .ok (.getfield 10, 3) := by decide +kernel
theorem dX11_sentence_12 : decode cX11_sentence 12 = .ok (.iconst 0, 1) := by decide +kernel
theorem dX11_sentence_13 : decode cX11_sentence 13 = .ok (.putfield 111, 3) := by decide +kernel
theorem dX11_sentence_16 : decode cX11_sentence 16 = .ok (.aload_n 0, 1) := by decide +kernel
theorem dX11_sentence_17 : decode cX11_sentence 17 = .ok (.aload_n 0, 1) := by decide +kernel
theorem dX11_sentence_18 : decode cX11_sentence 18 = .ok (.getfield 10, 3) := by decide +kernel
theorem dX11_sentence_21 : decode cX11_sentence 21 = .ok (.getfield 119, 3) := by decide +kernel
theorem dX11_sentence_24 : decode cX11_sentence 24 = .ok (.putfield 122, 3) := by decide +kernel
theorem dX11_sentence_27 : decode cX11_sentence 27 = .ok (.iload_n 1, 1) := by decide +kernel
theorem dX11_sentence_28 : decode cX11_sentence 28 = .ok (.ifCond .ne 13, 3) := by decide +kernel
theorem dX11_sentence_31 : decode cX11_sentence 31 = .ok (.iconst (-1), 1) := by decide +kernel
theorem dX11_sentence_32 : decode cX11_sentence 32 = .ok (.aload_n 0, 1) := by decide +kernel
theorem dX11_sentence_33 : decode cX11_sentence 33 = .ok (.getfield 10, 3) := by decide +kernel
theorem dX11_sentence_36 : decode cX11_sentence 36 = .ok (.getfield 125, 3) := by decide +kernel
theorem dX11_sentence_39 : decode cX11_sentence 39 = .ok (.isub, 1) := by decide +kernel
theorem dX11_sentence_40 : decode cX11_sentence 40 = .ok (.ireturn, 1) := by decide +kernel
theorem dX11_sentence_41 : decode cX11_sentence 41 = .ok (.aload_n 0, 1) := by decide +kernel
theorem dX11_sentence_42 : decode cX11_sentence 42 = .ok (.getfield 64, 3) := by decide +kernel
theorem dX11_sentence_45 : decode cX11_sentence 45 = .ok (.aload_n 0, 1) := by decide +kernel
theorem dX11_sentence_46 : decode cX11_sentence 46 = .ok (.getfield 68, 3) := by decide +kernel
theorem dX11_sentence_49 : decode cX11_sentence 49 = .ok (.invokevirtual 349, 3) := by decide +kernel
theorem dX11_sentence_52 : decode cX11_sentence 52 = .ok (.aload_n 0, 1) := by decide +kernel
theorem dX11_sentence_53 : decode cX11_sentence 53 = .ok (.getfield 64, 3) := by decide +kernel
theorem dX11_sentence_56 : decode cX11_sentence 56 = .ok (.getfield 137, 3) := by decide +kernel
theorem dX11_sentence_59 : decode cX11_sentence 59 = .ok (.ireturn, 1) := by decide +kernel
theorem dX11_soul_0 : decode cX11_soul 0 = .ok (.aload_n 0, 1) := by decide +kernel
theorem dX11_soul_1 : decode cX11_soul 1 = .ok (.getfield 19, 3) := by decide +kernel
theorem dX11_soul_4 : decode cX11_soul 4 = .ok (.iload_n 1, 1) := by decide +kernel
theorem dX11_soul_5 : decode cX11_soul 5 = .ok (.invokevirtual 169, 3) := by decide +kernel
theorem dX11_soul_8 : decode cX11_soul 8 = .ok (.ifCond .eq 13, 3) := by decide +kernel
theorem dX11_soul_11 : decode cX11_soul 11 = .ok (.iload_n 2, 1) := by decide +kernel
theorem dX11_soul_12 : decode cX11_soul 12 = .ok (.ifCond .lt 9, 3) := by decide +kernel
theorem dX11_soul_15 : decode cX11_soul 15 = .ok (.iload_n 2, 1) := by decide +kernel
theorem dX11_soul_16 : decode cX11_soul 16 = .ok (.bipush 7, 2) := by decide +kernel
theorem dX11_soul_18 : decode cX11_soul 18 = .ok (.if_icmp .le 11, 3) := by decide +kernel
theorem dX11_soul_21 : decode cX11_soul 21 = .ok (.new 172, 3) := by decide +kernel
theorem dX11_soul_24 : decode cX11_soul 24 = .ok (.dup, 1) := by decide +kernel
theorem dX11_soul_25 : decode cX11_soul 25 = .ok (.invokespecial 174, 3) := by decide +kernel
theorem dX11_soul_28 : decode cX11_soul 28 = .ok (.athrow, 1) := by decide +kernel
theorem dX11_soul_29 : decode cX11_soul 29 = .ok (.iload_n 2, 1) := by decide +kernel
theorem dX11_soul_30 : decode cX11_soul 30 = .ok (.tableswitch 132 0 6 #[42, 52, 62, 79, 89, 98, 115], 42) := by decide +kernel
theorem dX11_soul_72 : decode cX11_soul 72 = .ok (.aload_n 0, 1) := by decide +kernel
theorem dX11_soul_73 : decode cX11_soul 73 = .ok (.getfield 40, 3) := by decide +kernel
theorem dX11_soul_76 : decode cX11_soul 76 = .ok (.getfield 175, 3) := by decide +kernel
theorem dX11_soul_79 : decode cX11_soul 79 = .ok (.iload_n 1, 1) := by decide +kernel
theorem dX11_soul_80 : decode cX11_soul 80 = .ok (.iaload, 1) := by decide +kernel
theorem dX11_soul_81 : decode cX11_soul 81 = .ok (.ireturn, 1) := by decide +kernel
theorem dX11_soul_82 : decode cX11_soul 82 = .ok (.aload_n 0, 1) := by decide +kernel
theorem dX11_soul_83 : decode cX11_soul 83 = .ok (.getfield 40, 3) := by decide +kernel
theorem dX11_soul_86 : decode cX11_soul 86 = .ok (.getfield 178, 3) := by decide +kernel
theorem dX11_soul_89 : decode cX11_soul 89 = .ok (.iload_n 1, 1) := by decide +kernel
theorem dX11_soul_90 : decode cX11_soul 90 = .ok (.iaload, 1) := by decide +kernel
theorem dX11_soul_91 : decode cX11_soul 91 = .ok (.ireturn, 1) := by decide +kernel
theorem dX11_soul_92 : decode cX11_soul 92 = .ok (.aload_n 0, 1) := by decide +kernel
theorem dX11_soul_93 : decode cX11_soul 93 = .ok (.getfield 40, 3) := by decide +kernel
theorem dX11_soul_96 : decode cX11_soul 96 = .ok (.iload_n 1, 1) := by decide +kernel
theorem dX11_soul_97 : decode cX11_soul 97 = .ok (.invokevirtual 181, 3) := by decide +kernel
theorem dX11_soul_100 : decode cX11_soul 100 = .ok (.ifCond .eq 7, 3) := by decide +kernel
theorem dX11_soul_103 : decode cX11_soul 103 = .ok (.iconst 1, 1) := by decide +kernel
theorem dX11_soul_104 : decode cX11_soul 104 = .ok (.goto 4, 3) := by decide +kernel
theorem dX11_soul_107 : decode cX11_soul 107 = .ok (.iconst 0, 1) := by decide +kernel
theorem dX11_soul_108 : decode cX11_soul 108 = .ok (.ireturn, 1) := by decide +kernel
theorem dX11_soul_109 : decode cX11_soul 109 = .ok (.aload_n 0, 1) := by decide +kernel
theorem dX11_soul_110 : decode cX11_soul 110 = .ok (.getfield 19, 3) := by decide +kernel
theorem dX11_soul_113 : decode cX11_soul 113 = .ok (.getfield 184, 3) := by decide +kernel
theorem dX11_soul_116 : decode cX11_soul 116 = .ok (.iload_n 1, 1) := by decide +kernel
theorem dX11_soul_117 : decode cX11_soul 117 = .ok (.iaload, 1) := by decide +kernel
theorem dX11_soul_118 : decode cX11_soul 118 = .ok (.ireturn, 1) := by decide +kernel
theorem dX11_soul_119 : decode cX11_soul 119 = .ok (.aload_n 0, 1) := by decide +kernel
theorem dX11_soul_120 : decode cX11_soul 120 = .ok (.getfield 40, 3) := by decide +kernel
theorem dX11_soul_123 : decode cX11_soul 123 = .ok (.iload_n 1, 1) := by decide +kernel
theorem dX11_soul_124 : decode cX11_soul 124 = .ok (.invokevirtual 187, 3) := by decide +kernel
theorem dX11_soul_127 : decode cX11_soul 127 = .ok (.ireturn, 1) := by decide +kernel
theorem dX11_soul_128 : decode cX11_soul 128 = .ok (.aload_n 0, 1) := by decide +kernel
theorem dX11_soul_129 : decode cX11_soul 129 = .ok (.getfield 40, 3) := by decide +kernel
theorem dX11_soul_132 : decode cX11_soul 132 = .ok (.iload_n 1, 1) := by decide +kernel
theorem dX11_soul_133 : decode cX11_soul 133 = .ok (.invokevirtual 190, 3) := by decide +kernel
theorem dX11_soul_136 : decode cX11_soul 136 = .ok (.ifCond .eq 7, 3) := by decide +kernel
theorem dX11_soul_139 : decode cX11_soul 139 = .ok (.iconst 1, 1) := by decide +kernel
theorem dX11_soul_140 : decode cX11_soul 140 = .ok (.goto 4, 3) := by decide +kernel
theorem dX11_soul_143 : decode cX11_soul 143 = .ok (.iconst 0, 1) := by decide +kernel
theorem dX11_soul_144 : decode cX11_soul 144 = .ok (.ireturn, 1) := by decide +kernel
theorem dX11_soul_145 : decode cX11_soul 145 = .ok (.aload_n 0, 1) := by decide +kernel
theorem dX11_soul_146 : decode cX11_soul 146 = .ok (.getfield 40, 3) := by decide +kernel
theorem dX11_soul_149 : decode cX11_soul 149 = .ok (.iload_n 1, 1) := by decide +kernel
theorem dX11_soul_150 : decode cX11_soul 150 = .ok (.invokevirtual 193, 3) := by decide +kernel
theorem dX11_soul_153 : decode cX11_soul 153 = .ok (.ifCond .eq 7, 3) := by decide +kernel
theorem dX11_soul_156 : decode cX11_soul 156 = .ok (.iconst 1, 1) := by decide +kernel
theorem dX11_soul_157 : decode cX11_soul 157 = .ok (.goto 4, 3) := by decide +kernel
theorem dX11_soul_160 : decode cX11_soul 160 = .ok (.iconst 0, 1) := by decide +kernel
theorem dX11_soul_161 : decode cX11_soul 161 = .ok (.ireturn, 1) := by decide +kernel
theorem dX11_soul_162 : decode cX11_soul 162 = .ok (.aload_n 0, 1) := by decide +kernel
theorem dX11_soul_163 : decode cX11_soul 163 = .ok (.getfield 40, 3) := by decide +kernel
theorem dX11_soul_166 : decode cX11_soul 166 = .ok (.getfield 196, 3) := by decide +kernel
theorem dX11_soul_169 : decode cX11_soul 169 = .ok (.iload_n 1, 1) := by decide +kernel
theorem dX11_soul_170 : decode cX11_soul 170 = .ok (.iaload, 1) := by decide +kernel
theorem dX11_soul_171 : decode cX11_soul 171 = .ok (.ireturn, 1) := by decide +kernel
theorem dX11_soulsInLedger_0 : decode cX11_soulsInLedger 0 = .ok (.iconst 0, 1) := by decide +kernel
theorem dX11_soulsInLedger_1 : decode cX11_soulsInLedger 1 = .ok (.istore_n 2, 1) := by decide +kernel
theorem dX11_soulsInLedger_2 : decode cX11_soulsInLedger 2 = .ok (.iconst 0, 1) := by decide +kernel
theorem dX11_soulsInLedger_3 : decode cX11_soulsInLedger 3 = .ok (.istore_n 3, 1) := by decide +kernel
theorem dX11_soulsInLedger_4 : decode cX11_soulsInLedger 4 = .ok (.iload_n 3, 1) := by decide +kernel
theorem dX11_soulsInLedger_5 : decode cX11_soulsInLedger 5 = .ok (.aload_n 0, 1) := by decide +kernel
theorem dX11_soulsInLedger_6 : decode cX11_soulsInLedger 6 = .ok (.getfield 19, 3) := by decide +kernel
theorem dX11_soulsInLedger_9 : decode cX11_soulsInLedger 9 = .ok (.getfield 216, 3) := by decide +kernel
theorem dX11_soulsInLedger_12 : decode cX11_soulsInLedger 12 = .ok (.if_icmp .ge 88, 3) := by decide +kernel
theorem dX11_soulsInLedger_15 : decode cX11_soulsInLedger 15 = .ok (.iconst 1, 1) := by decide +kernel
theorem dX11_soulsInLedger_16 : decode cX11_soulsInLedger 16 = .ok (.istore 4, 2) := by decide +kernel
theorem dX11_soulsInLedger_18 : decode cX11_soulsInLedger 18 = .ok (.iconst 0, 1) := by decide +kernel
theorem dX11_soulsInLedger_19 : decode cX11_soulsInLedger 19 = .ok (.istore 5, 2) := by decide +kernel
theorem dX11_soulsInLedger_21 : decode cX11_soulsInLedger 21 = .ok (.iload 5, 2) := by decide +kernel
theorem dX11_soulsInLedger_23 : decode cX11_soulsInLedger 23 = .ok (.iload_n 1, 1) := by decide +kernel
theorem dX11_soulsInLedger_24 : decode cX11_soulsInLedger 24 = .ok (.if_icmp .ge 59, 3) := by decide +kernel
theorem dX11_soulsInLedger_27 : decode cX11_soulsInLedger 27 = .ok (.iload 4, 2) := by decide +kernel
theorem dX11_soulsInLedger_29 : decode cX11_soulsInLedger 29 = .ok (.ifCond .eq 54, 3) := by decide +kernel
theorem dX11_soulsInLedger_32 : decode cX11_soulsInLedger 32 = .ok (.aload_n 0, 1) := by decide +kernel
theorem dX11_soulsInLedger_33 : decode cX11_soulsInLedger 33 = .ok (.getfield 10, 3) := by decide +kernel
theorem dX11_soulsInLedger_36 : decode cX11_soulsInLedger 36 = .ok (.iload 5, 2) := by decide +kernel
theorem dX11_soulsInLedger_38 : decode cX11_soulsInLedger 38 = .ok (.invokevirtual 371, 3) := by decide +kernel
theorem dX11_soulsInLedger_41 : decode cX11_soulsInLedger 41 = .ok (.istore 6, 2) := by decide +kernel
theorem dX11_soulsInLedger_43 : decode cX11_soulsInLedger 43 = .ok (.aload_n 0, 1) := by decide +kernel
theorem dX11_soulsInLedger_44 : decode cX11_soulsInLedger 44 = .ok (.getfield 40, 3) := by decide +kernel
theorem dX11_soulsInLedger_47 : decode cX11_soulsInLedger 47 = .ok (.iload_n 3, 1) := by decide +kernel
theorem dX11_soulsInLedger_48 : decode cX11_soulsInLedger 48 = .ok (.iload 5, 2) := by decide +kernel
theorem dX11_soulsInLedger_50 : decode cX11_soulsInLedger 50 = .ok (.invokevirtual 266, 3) := by decide +kernel
theorem dX11_soulsInLedger_53 : decode cX11_soulsInLedger 53 = .ok (.iload 6, 2) := by decide +kernel
theorem dX11_soulsInLedger_55 : decode cX11_soulsInLedger 55 = .ok (.sipush 255, 3) := by decide +kernel
theorem dX11_soulsInLedger_58 : decode cX11_soulsInLedger 58 = .ok (.if_icmp .ne 7, 3) := by decide +kernel
theorem dX11_soulsInLedger_61 : decode cX11_soulsInLedger 61 = .ok (.iconst (-1), 1) := by decide +kernel
theorem dX11_soulsInLedger_62 : decode cX11_soulsInLedger 62 = .ok (.goto 5, 3) := by decide +kernel
theorem dX11_soulsInLedger_65 : decode cX11_soulsInLedger 65 = .ok (.iload 6, 2) := by decide +kernel
theorem dX11_soulsInLedger_67 : decode cX11_soulsInLedger 67 = .ok (.if_icmp .ne 7, 3) := by decide +kernel
theorem dX11_soulsInLedger_70 : decode cX11_soulsInLedger 70 = .ok (.iconst 1, 1) := by decide +kernel
theorem dX11_soulsInLedger_71 : decode cX11_soulsInLedger 71 = .ok (.goto 4, 3) := by decide +kernel
theorem dX11_soulsInLedger_74 : decode cX11_soulsInLedger 74 = .ok (.iconst 0, 1) := by decide +kernel
theorem dX11_soulsInLedger_75 : decode cX11_soulsInLedger 75 = .ok (.istore 4, 2) := by decide +kernel
