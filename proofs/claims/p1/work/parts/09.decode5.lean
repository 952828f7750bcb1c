theorem dX12_monday_169 : decode cX12_monday 169 = .ok (.sipush 146, 3) := by decide +kernel
theorem dX12_monday_172 : decode cX12_monday 172 = .ok (.dup2, 1) := by decide +kernel
theorem dX12_monday_173 : decode cX12_monday 173 = .ok (.iaload, 1) := by decide +kernel
theorem dX12_monday_174 : decode cX12_monday 174 = .ok (.iconst 1, 1) := by decide +kernel
theorem dX12_monday_175 : decode cX12_monday 175 = .ok (.iadd, 1) := by decide +kernel
theorem dX12_monday_176 : decode cX12_monday 176 = .ok (.iastore, 1) := by decide +kernel
theorem dX12_monday_177 : decode cX12_monday 177 = .ok (.aload_n 0, 1) := by decide +kernel
theorem dX12_monday_178 : decode cX12_monday 178 = .ok (.getfield 33, 3) := by decide +kernel
theorem dX12_monday_181 : decode cX12_monday 181 = .ok (.sipush 149, 3) := by decide +kernel
theorem dX12_monday_184 : decode cX12_monday 184 = .ok (.iconst 0, 1) := by decide +kernel
theorem dX12_monday_185 : decode cX12_monday 185 = .ok (.iastore, 1) := by decide +kernel
theorem dX12_monday_186 : decode cX12_monday 186 = .ok (.return_, 1) := by decide +kernel
theorem dX12_mondays_0 : decode cX12_mondays 0 = .ok (.aload_n 0, 1) := by decide +kernel
theorem dX12_mondays_1 : decode cX12_mondays 1 = .ok (.iconst 0, 1) := by decide +kernel
theorem dX12_mondays_2 : decode cX12_mondays 2 = .ok (.putfield 1, 3) := by decide +kernel
theorem dX12_mondays_5 : decode cX12_mondays 5 = .ok (.iload_n 1, 1) := by decide +kernel
theorem dX12_mondays_6 : decode cX12_mondays 6 = .ok (.iconst 1, 1) := by decide +kernel
theorem dX12_mondays_7 : decode cX12_mondays 7 = .ok (.bipush 60, 2) := by decide +kernel
theorem dX12_mondays_9 : decode cX12_mondays 9 = .ok (.invokestatic 177, 3) := by decide +kernel
theorem dX12_mondays_12 : decode cX12_mondays 12 = .ok (.ifCond .ne 5, 3) := by decide +kernel
theorem dX12_mondays_15 : decode cX12_mondays 15 = .ok (.iconst (-1), 1) := by decide +kernel
theorem dX12_mondays_16 : decode cX12_mondays 16 = .ok (.ireturn, 1) := by decide +kernel
theorem dX12_mondays_17 : decode cX12_mondays 17 = .ok (.aload_n 0, 1) := by decide +kernel
theorem dX12_mondays_18 : decode cX12_mondays 18 = .ok (.getfield 33, 3) := by decide +kernel
theorem dX12_mondays_21 : decode cX12_mondays 21 = .ok (.sipush 146, 3) := by decide +kernel
theorem dX12_mondays_24 : decode cX12_mondays 24 = .ok (.iaload, 1) := by decide +kernel
theorem dX12_mondays_25 : decode cX12_mondays 25 = .ok (.sipush 200, 3) := by decide +kernel
theorem dX12_mondays_28 : decode cX12_mondays 28 = .ok (.if_icmp .ne 5, 3) := by decide +kernel
theorem dX12_mondays_33 : decode cX12_mondays 33 = .ok (.aload_n 0, 1) := by decide +kernel
theorem dX12_mondays_34 : decode cX12_mondays 34 = .ok (.invokevirtual 280, 3) := by decide +kernel
theorem dX12_mondays_37 : decode cX12_mondays 37 = .ok (.aload_n 0, 1) := by decide +kernel
theorem dX12_mondays_38 : decode cX12_mondays 38 = .ok (.iload_n 1, 1) := by decide +kernel
theorem dX12_mondays_39 : decode cX12_mondays 39 = .ok (.invokevirtual 326, 3) := by decide +kernel
theorem dX12_mondays_42 : decode cX12_mondays 42 = .ok (.ireturn, 1) := by decide +kernel
theorem dX12_must_0 : decode cX12_must 0 = .ok (.aload_n 0, 1) := by decide +kernel
theorem dX12_must_1 : decode cX12_must 1 = .ok (.iconst 0, 1) := by decide +kernel
theorem dX12_must_2 : decode cX12_must 2 = .ok (.putfield 1, 3) := by decide +kernel
theorem dX12_must_5 : decode cX12_must 5 = .ok (.iload_n 1, 1) := by decide +kernel
theorem dX12_must_6 : decode cX12_must 6 = .ok (.iconst 0, 1) := by decide +kernel
theorem dX12_must_7 : decode cX12_must 7 = .ok (.sipush 199, 3) := by decide +kernel
theorem dX12_must_10 : decode cX12_must 10 = .ok (.invokestatic 177, 3) := by decide +kernel
theorem dX12_must_13 : decode cX12_must 13 = .ok (.ifCond .ne 5, 3) := by decide +kernel
theorem dX12_must_16 : decode cX12_must 16 = .ok (.iconst (-1), 1) := by decide +kernel
theorem dX12_must_17 : decode cX12_must 17 = .ok (.ireturn, 1) := by decide +kernel
theorem dX12_must_18 : decode cX12_must 18 = .ok (.iconst 0, 1) := by decide +kernel
theorem dX12_must_19 : decode cX12_must 19 = .ok (.istore_n 2, 1) := by decide +kernel
theorem dX12_must_20 : decode cX12_must 20 = .ok (.iconst 0, 1) := by decide +kernel
theorem dX12_must_21 : decode cX12_must 21 = .ok (.istore_n 3, 1) := by decide +kernel
theorem dX12_must_22 : decode cX12_must 22 = .ok (.iload_n 3, 1) := by decide +kernel
theorem dX12_must_23 : decode cX12_must 23 = .ok (.aload_n 0, 1) := by decide +kernel
theorem dX12_must_24 : decode cX12_must 24 = .ok (.getfield 33, 3) := by decide +kernel
theorem dX12_must_27 : decode cX12_must 27 = .ok (.iconst 0, 1) := by decide +kernel
theorem dX12_must_28 : decode cX12_must 28 = .ok (.iaload, 1) := by decide +kernel
theorem dX12_must_29 : decode cX12_must 29 = .ok (.if_icmp .ge 62, 3) := by decide +kernel
theorem dX12_must_91 : decode cX12_must 91 = .ok (.iload_n 2, 1) := by decide +kernel
theorem dX12_must_92 : decode cX12_must 92 = .ok (.ireturn, 1) := by decide +kernel
theorem dX12_name_0 : decode cX12_name 0 = .ok (.aload_n 0, 1) := by decide +kernel
theorem dX12_name_1 : decode cX12_name 1 = .ok (.iconst 0, 1) := by decide +kernel
theorem dX12_name_2 : decode cX12_name 2 = .ok (.putfield 1, 3) := by decide +kernel
theorem dX12_name_5 : decode cX12_name 5 = .ok (.aload_n 0, 1) := by decide +kernel
theorem dX12_name_6 : decode cX12_name 6 = .ok (.iload_n 1, 1) := by decide +kernel
theorem dX12_name_7 : decode cX12_name 7 = .ok (.invokevirtual 246, 3) := by decide +kernel
theorem dX12_name_10 : decode cX12_name 10 = .ok (.ifCond .ne 5, 3) := by decide +kernel
theorem dX12_name_13 : decode cX12_name 13 = .ok (.iconst (-1), 1) := by decide +kernel
theorem dX12_name_14 : decode cX12_name 14 = .ok (.ireturn, 1) := by decide +kernel
theorem dX12_next_0 : decode cX12_next 0 = .ok (.aload_n 0, 1) := by decide +kernel
theorem dX12_next_1 : decode cX12_next 1 = .ok (.invokevirtual 135, 3) := by decide +kernel
theorem dX12_next_4 : decode cX12_next 4 = .ok (.bipush 32, 2) := by decide +kernel
theorem dX12_next_6 : decode cX12_next 6 = .ok (.if_icmp .eq 12, 3) := by decide +kernel
theorem dX12_next_9 : decode cX12_next 9 = .ok (.aload_n 0, 1) := by decide +kernel
theorem dX12_next_10 : decode cX12_next 10 = .ok (.invokevirtual 135, 3) := by decide +kernel
theorem dX12_next_13 : decode cX12_next 13 = .ok (.bipush 10, 2) := by decide +kernel
theorem dX12_next_15 : decode cX12_next 15 = .ok (.if_icmp .ne 16, 3) := by decide +kernel
theorem dX12_next_31 : decode cX12_next 31 = .ok (.aload_n 0, 1) := by decide +kernel
theorem dX12_next_32 : decode cX12_next 32 = .ok (.aload_n 0, 1) := by decide +kernel
theorem dX12_next_33 : decode cX12_next 33 = .ok (.getfield 21, 3) := by decide +kernel
theorem dX12_next_36 : decode cX12_next 36 = .ok (.putfield 139, 3) := by decide +kernel
theorem dX12_next_39 : decode cX12_next 39 = .ok (.aload_n 0, 1) := by decide +kernel
theorem dX12_next_40 : decode cX12_next 40 = .ok (.iconst 0, 1) := by decide +kernel
theorem dX12_next_41 : decode cX12_next 41 = .ok (.putfield 142, 3) := by decide +kernel
theorem dX12_next_44 : decode cX12_next 44 = .ok (.aload_n 0, 1) := by decide +kernel
theorem dX12_next_45 : decode cX12_next 45 = .ok (.getfield 18, 3) := by decide +kernel
theorem dX12_next_48 : decode cX12_next 48 = .ok (.aload_n 0, 1) := by decide +kernel
theorem dX12_next_49 : decode cX12_next 49 = .ok (.getfield 24, 3) := by decide +kernel
theorem dX12_next_52 : decode cX12_next 52 = .ok (.if_icmp .le 28, 3) := by decide +kernel
theorem dX12_next_80 : decode cX12_next 80 = .ok (.aload_n 0, 1) := by decide +kernel
theorem dX12_next_81 : decode cX12_next 81 = .ok (.invokevirtual 135, 3) := by decide +kernel
theorem dX12_next_84 : decode cX12_next 84 = .ok (.istore_n 1, 1) := by decide +kernel
theorem dX12_next_85 : decode cX12_next 85 = .ok (.iload_n 1, 1) := by decide +kernel
theorem dX12_next_86 : decode cX12_next 86 = .ok (.ifCond .ge 9, 3) := by decide +kernel
theorem dX12_next_89 : decode cX12_next 89 = .ok (.aload_n 0, 1) := by decide +kernel
theorem dX12_next_90 : decode cX12_next 90 = .ok (.iconst 0, 1) := by decide +kernel
theorem dX12_next_91 : decode cX12_next 91 = .ok (.putfield 145, 3) := by decide +kernel
theorem dX12_next_94 : decode cX12_next 94 = .ok (.return_, 1) := by decide +kernel
theorem dX12_now_0 : decode cX12_now 0 = .ok (.aload_n 0, 1) := by decide +kernel
theorem dX12_now_1 : decode cX12_now 1 = .ok (.iconst 0, 1) := by decide +kernel
theorem dX12_now_2 : decode cX12_now 2 = .ok (.putfield 1, 3) := by decide +kernel
theorem dX12_now_5 : decode cX12_now 5 = .ok (.iload_n 1, 1) := by decide +kernel
theorem dX12_now_6 : decode cX12_now 6 = .ok (.tableswitch 112 0 6 #[42, 51, 73, 78, 87, 95, 103], 42) := by decide +kernel
theorem dX12_now_48 : decode cX12_now 48 = .ok (.aload_n 0, 1) := by decide +kernel
theorem dX12_now_49 : decode cX12_now 49 = .ok (.getfield 33, 3) := by decide +kernel
theorem dX12_now_52 : decode cX12_now 52 = .ok (.sipush 146, 3) := by decide +kernel
theorem dX12_now_55 : decode cX12_now 55 = .ok (.iaload, 1) := by decide +kernel
theorem dX12_now_56 : decode cX12_now 56 = .ok (.ireturn, 1) := by decide +kernel
theorem dX12_now_57 : decode cX12_now 57 = .ok (.iconst 1, 1) := by decide +kernel
theorem dX12_now_58 : decode cX12_now 58 = .ok (.aload_n 0, 1) := by decide +kernel
theorem dX12_now_59 : decode cX12_now 59 = .ok (.getfield 33, 3) := by decide +kernel
theorem dX12_now_62 : decode cX12_now 62 = .ok (.iconst 1, 1) := by decide +kernel
theorem dX12_now_63 : decode cX12_now 63 = .ok (.iaload, 1) := by decide +kernel
theorem dX12_now_64 : decode cX12_now 64 = .ok (.ishl, 1) := by decide +kernel
theorem dX12_now_65 : decode cX12_now 65 = .ok (.iconst 1, 1) := by decide +kernel
theorem dX12_now_66 : decode cX12_now 66 = .ok (.isub, 1) := by decide +kernel
theorem dX12_now_67 : decode cX12_now 67 = .ok (.aload_n 0, 1) := by decide +kernel
theorem dX12_now_68 : decode cX12_now 68 = .ok (.getfield 33, 3) := by decide +kernel
theorem dX12_now_71 : decode cX12_now 71 = .ok (.sipush 147, 3) := by decide +kernel
theorem dX12_now_74 : decode cX12_now 74 = .ok (.iaload, 1) := by decide +kernel
theorem dX12_now_75 : decode cX12_now 75 = .ok (.iconst (-1), 1) := by decide +kernel
theorem dX12_now_76 : decode cX12_now 76 = .ok (.ixor, 1) := by decide +kernel
theorem dX12_now_77 : decode cX12_now 77 = .ok (.iand, 1) := by decide +kernel
theorem dX12_now_78 : decode cX12_now 78 = .ok (.ireturn, 1) := by decide +kernel
theorem dX12_now_79 : decode cX12_now 79 = .ok (.aload_n 0, 1) := by decide +kernel
theorem dX12_now_80 : decode cX12_now 80 = .ok (.invokevirtual 262, 3) := by decide +kernel
theorem dX12_now_83 : decode cX12_now 83 = .ok (.ireturn, 1) := by decide +kernel
theorem dX12_now_84 : decode cX12_now 84 = .ok (.aload_n 0, 1) := by decide +kernel
theorem dX12_now_85 : decode cX12_now 85 = .ok (.getfield 33, 3) := by decide +kernel
theorem dX12_now_88 : decode cX12_now 88 = .ok (.sipush 151, 3) := by decide +kernel
theorem dX12_now_91 : decode cX12_now 91 = .ok (.iaload, 1) := by decide +kernel
theorem dX12_now_92 : decode cX12_now 92 = .ok (.ireturn, 1) := by decide +kernel
theorem dX12_now_93 : decode cX12_now 93 = .ok (.aload_n 0, 1) := by decide +kernel
theorem dX12_now_94 : decode cX12_now 94 = .ok (.sipush 170, 3) := by decide +kernel
theorem dX12_now_97 : decode cX12_now 97 = .ok (.invokevirtual 265, 3) := by decide +kernel
theorem dX12_now_100 : decode cX12_now 100 = .ok (.ireturn, 1) := by decide +kernel
theorem dX12_now_101 : decode cX12_now 101 = .ok (.aload_n 0, 1) := by decide +kernel
theorem dX12_now_102 : decode cX12_now 102 = .ok (.sipush 188, 3) := by decide +kernel
theorem dX12_now_105 : decode cX12_now 105 = .ok (.invokevirtual 265, 3) := by decide +kernel
theorem dX12_now_108 : decode cX12_now 108 = .ok (.ireturn, 1) := by decide +kernel
theorem dX12_now_109 : decode cX12_now 109 = .ok (.aload_n 0, 1) := by decide +kernel
theorem dX12_now_110 : decode cX12_now 110 = .ok (.getfield 33, 3) := by decide +kernel
theorem dX12_now_113 : decode cX12_now 113 = .ok (.sipush 150, 3) := by decide +kernel
theorem dX12_now_116 : decode cX12_now 116 = .ok (.iaload, 1) := by decide +kernel
theorem dX12_now_117 : decode cX12_now 117 = .ok (.ireturn, 1) := by decide +kernel
theorem dX12_now_118 : decode cX12_now 118 = .ok (.iconst (-1), 1) := by decide +kernel
theorem dX12_now_119 : decode cX12_now 119 = .ok (.ireturn, 1) := by decide +kernel
theorem dX12_odds_0 : decode cX12_odds 0 = .ok (.aload_n 0, 1) := by decide +kernel
theorem dX12_odds_1 : decode cX12_odds 1 = .ok (.iconst 0, 1) := by decide +kernel
theorem dX12_odds_2 : decode cX12_odds 2 = .ok (.putfield 1, 3) := by decide +kernel
theorem dX12_odds_5 : decode cX12_odds 5 = .ok (.aload_n 0, 1) := by decide +kernel
theorem dX12_odds_6 : decode cX12_odds 6 = .ok (.iload_n 1, 1) := by decide +kernel
theorem dX12_odds_7 : decode cX12_odds 7 = .ok (.invokevirtual 236, 3) := by decide +kernel
theorem dX12_odds_10 : decode cX12_odds 10 = .ok (.ifCond .eq 22, 3) := by decide +kernel
theorem dX12_odds_32 : decode cX12_odds 32 = .ok (.iconst (-1), 1) := by decide +kernel
theorem dX12_odds_33 : decode cX12_odds 33 = .ok (.ireturn, 1) := by decide +kernel
theorem dX12_operand_0 : decode cX12_operand 0 = .ok (.aload_n 0, 1) := by decide +kernel
theorem dX12_operand_1 : decode cX12_operand 1 = .ok (.ldc2_w 117, 3) := by decide +kernel
theorem dX12_operand_4 : decode cX12_operand 4 = .ok (.invokevirtual 196, 3) := by decide +kernel
theorem dX12_operand_7 : decode cX12_operand 7 = .ok (.istore_n 1, 1) := by decide +kernel
theorem dX12_operand_8 : decode cX12_operand 8 = .ok (.aload_n 0, 1) := by decide +kernel
theorem dX12_operand_9 : decode cX12_operand 9 = .ok (.bipush 40, 2) := by decide +kernel
theorem dX12_operand_11 : decode cX12_operand 11 = .ok (.invokevirtual 168, 3) := by decide +kernel
theorem dX12_operand_14 : decode cX12_operand 14 = .ok (.istore_n 2, 1) := by decide +kernel
theorem dX12_operand_15 : decode cX12_operand 15 = .ok (.aload_n 0, 1) := by decide +kernel
theorem dX12_operand_16 : decode cX12_operand 16 = .ok (.invokevirtual 430, 3) := by decide +kernel
theorem dX12_operand_19 : decode cX12_operand 19 = .ok (.istore_n 3, 1) := by decide +kernel
theorem dX12_operand_20 : decode cX12_operand 20 = .ok (.iload_n 1, 1) := by decide +kernel
theorem dX12_operand_21 : decode cX12_operand 21 = .ok (.ifCond .ne 17, 3) := by decide +kernel
theorem dX12_operand_24 : decode cX12_operand 24 = .ok (.iload_n 2, 1) := by decide +kernel
theorem dX12_operand_25 : decode cX12_operand 25 = .ok (.ifCond .ne 13, 3) := by decide +kernel
theorem dX12_operand_28 : decode cX12_operand 28 = .ok (.iload_n 3, 1) := by decide +kernel
theorem dX12_operand_29 : decode cX12_operand 29 = .ok (.ifCond .ge 9, 3) := by decide +kernel
theorem dX12_operand_32 : decode cX12_operand 32 = .ok (.aload_n 0, 1) := by decide +kernel
theorem dX12_operand_33 : decode cX12_operand 33 = .ok (.iconst 1, 1) := by decide +kernel
theorem dX12_operand_34 : decode cX12_operand 34 = .ok (.invokevirtual 171, 3) := by decide +kernel
theorem dX12_operand_37 : decode cX12_operand 37 = .ok (.ireturn, 1) := by decide +kernel
theorem dX12_partner_0 : decode cX12_partner 0 = .ok (.aload_n 0, 1) := by decide +kernel
theorem dX12_partner_1 : decode cX12_partner 1 = .ok (.iconst 0, 1) := by decide +kernel
theorem dX12_partner_2 : decode cX12_partner 2 = .ok (.putfield 1, 3) := by decide +kernel
theorem dX12_partner_5 : decode cX12_partner 5 = .ok (.iload_n 1, 1) := by decide +kernel
theorem dX12_partner_6 : decode cX12_partner 6 = .ok (.iconst 0, 1) := by decide +kernel
theorem dX12_partner_7 : decode cX12_partner 7 = .ok (.aload_n 0, 1) := by decide +kernel
theorem dX12_partner_8 : decode cX12_partner 8 = .ok (.getfield 59, 3) := by decide +kernel
theorem dX12_partner_11 : decode cX12_partner 11 = .ok (.iconst 1, 1) := by decide +kernel
theorem dX12_partner_12 : decode cX12_partner 12 = .ok (.isub, 1) := by decide +kernel
theorem dX12_partner_13 : decode cX12_partner 13 = .ok (.invokestatic 177, 3) := by decide +kernel
theorem dX12_partner_16 : decode cX12_partner 16 = .ok (.ifCond .eq 12, 3) := by decide +kernel
theorem dX12_partner_28 : decode cX12_partner 28 = .ok (.iconst (-1), 1) := by decide +kernel
theorem dX12_partner_29 : decode cX12_partner 29 = .ok (.ireturn, 1) := by decide +kernel
theorem dX12_party_0 : decode cX12_party 0 = .ok (.aload_n 0, 1) := by decide +kernel
theorem dX12_party_1 : decode cX12_party 1 = .ok (.iconst 0, 1) := by decide +kernel
theorem dX12_party_2 : decode cX12_party 2 = .ok (.putfield 1, 3) := by decide +kernel
theorem dX12_party_5 : decode cX12_party 5 = .ok (.iconst (-1), 1) := by decide +kernel
theorem dX12_party_6 : decode cX12_party 6 = .ok (.istore_n 1, 1) := by decide +kernel
theorem dX12_party_7 : decode cX12_party 7 = .ok (.iconst 0, 1) := by decide +kernel
theorem dX12_party_8 : decode cX12_party 8 = .ok (.istore_n 2, 1) := by decide +kernel
theorem dX12_party_9 : decode cX12_party 9 = .ok (.iload_n 2, 1) := by decide +kernel
theorem dX12_party_10 : decode cX12_party 10 = .ok (.iconst 1, 1) := by decide +kernel
theorem dX12_party_11 : decode cX12_party 11 = .ok (.aload_n 0, 1) := by decide +kernel
theorem dX12_party_12 : decode cX12_party 12 = .ok (.getfield 33, 3) := by decide +kernel
theorem dX12_party_15 : decode cX12_party 15 = .ok (.iconst 1, 1) := by decide +kernel
theorem dX12_party_16 : decode cX12_party 16 = .ok (.iaload, 1) := by decide +kernel
theorem dX12_party_17 : decode cX12_party 17 = .ok (.ishl, 1) := by decide +kernel
theorem dX12_party_18 : decode cX12_party 18 = .ok (.if_icmp .ge 47, 3) := by decide +kernel
theorem dX12_party_21 : decode cX12_party 21 = .ok (.iload_n 2, 1) := by decide +kernel
theorem dX12_party_22 : decode cX12_party 22 = .ok (.aload_n 0, 1) := by decide +kernel
theorem dX12_party_23 : decode cX12_party 23 = .ok (.getfield 33, 3) := by decide +kernel
theorem dX12_party_26 : decode cX12_party 26 = .ok (.sipush 147, 3) := by decide +kernel
theorem dX12_party_29 : decode cX12_party 29 = .ok (.iaload, 1) := by decide +kernel
theorem dX12_party_30 : decode cX12_party 30 = .ok (.iand, 1) := by decide +kernel
theorem dX12_party_31 : decode cX12_party 31 = .ok (.ifCond .ne 28, 3) := by decide +kernel
theorem dX12_party_34 : decode cX12_party 34 = .ok (.iload_n 1, 1) := by decide +kernel
theorem dX12_party_35 : decode cX12_party 35 = .ok (.ifCond .lt 14, 3) := by decide +kernel
theorem dX12_party_49 : decode cX12_party 49 = .ok (.aload_n 0, 1) := by decide +kernel
theorem dX12_party_50 : decode cX12_party 50 = .ok (.iload_n 2, 1) := by decide +kernel
theorem dX12_party_51 : decode cX12_party 51 = .ok (.invokevirtual 374, 3) := by decide +kernel
theorem dX12_party_54 : decode cX12_party 54 = .ok (.ifCond .eq 5, 3) := by decide +kernel
theorem dX12_party_59 : decode cX12_party 59 = .ok (.iinc 2 1, 3) := by decide +kernel
theorem dX12_party_62 : decode cX12_party 62 = .ok (.goto (-53), 3) := by decide +kernel
theorem dX12_party_65 : decode cX12_party 65 = .ok (.iload_n 1, 1) := by decide +kernel
theorem dX12_party_66 : decode cX12_party 66 = .ok (.ireturn, 1) := by decide +kernel
theorem dX12_pay_0 : decode cX12_pay 0 = .ok (.aload_n 0, 1) := by decide +kernel
theorem dX12_pay_1 : decode cX12_pay 1 = .ok (.iconst 0, 1) := by decide +kernel
theorem dX12_pay_2 : decode cX12_pay 2 = .ok (.putfield 1, 3) := by decide +kernel
theorem dX12_pay_5 : decode cX12_pay 5 = .ok (.aload_n 0, 1) := by decide +kernel
theorem dX12_pay_6 : decode cX12_pay 6 = .ok (.iload_n 1, 1) := by decide +kernel
theorem dX12_pay_7 : decode cX12_pay 7 = .ok (.invokevirtual 236, 3) := by decide +kernel
theorem dX12_pay_10 : decode cX12_pay 10 = .ok (.ifCond .eq 13, 3) := by decide +kernel
theorem dX12_pay_23 : decode cX12_pay 23 = .ok (.iconst (-1), 1) := by decide +kernel
theorem dX12_pay_24 : decode cX12_pay 24 = .ok (.ireturn, 1) := by decide +kernel
theorem dX12_peek_0 : decode cX12_peek 0 = .ok (.aload_n 0, 1) := by decide +kernel
theorem dX12_peek_1 : decode cX12_peek 1 = .ok (.getfield 21, 3) := by decide +kernel
theorem dX12_peek_4 : decode cX12_peek 4 = .ok (.aload_n 0, 1) := by decide +kernel
theorem dX12_peek_5 : decode cX12_peek 5 = .ok (.getfield 18, 3) := by decide +kernel
theorem dX12_peek_8 : decode cX12_peek 8 = .ok (.if_icmp .ge 19, 3) := by decide +kernel
theorem dX12_peek_27 : decode cX12_peek 27 = .ok (.iconst (-1), 1) := by decide +kernel
theorem dX12_peek_28 : decode cX12_peek 28 = .ok (.ireturn, 1) := by decide +kernel
theorem dX12_queue_0 : decode cX12_queue 0 = .ok (.aload_n 0, 1) := by decide +kernel
theorem dX12_queue_1 : decode cX12_queue 1 = .ok (.iconst 0, 1) := by decide +kernel
theorem dX12_queue_2 : decode cX12_queue 2 = .ok (.putfield 1, 3) := by decide +kernel
theorem dX12_queue_5 : decode cX12_queue 5 = .ok (.iload_n 1, 1) := by decide +kernel
theorem dX12_queue_6 : decode cX12_queue 6 = .ok (.iconst 0, 1) := by decide +kernel
theorem dX12_queue_7 : decode cX12_queue 7 = .ok (.aload_n 0, 1) := by decide +kernel
theorem dX12_queue_8 : decode cX12_queue 8 = .ok (.getfield 33, 3) := by decide +kernel
theorem dX12_queue_11 : decode cX12_queue 11 = .ok (.sipush 151, 3) := by decide +kernel
theorem dX12_queue_14 : decode cX12_queue 14 = .ok (.iaload, 1) := by decide +kernel
theorem dX12_queue_15 : decode cX12_queue 15 = .ok (.iconst 1, 1) := by decide +kernel
theorem dX12_queue_16 : decode cX12_queue 16 = .ok (.isub, 1) := by decide +kernel
theorem dX12_queue_17 : decode cX12_queue 17 = .ok (.invokestatic 177, 3) := by decide +kernel
theorem dX12_queue_20 : decode cX12_queue 20 = .ok (.ifCond .eq 16, 3) := by decide +kernel
theorem dX12_queue_36 : decode cX12_queue 36 = .ok (.iconst (-1), 1) := by decide +kernel
theorem dX12_queue_37 : decode cX12_queue 37 = .ok (.ireturn, 1) := by decide +kernel
theorem dX12_restore_0 : decode cX12_restore 0 = .ok (.aload_n 0, 1) := by decide +kernel
theorem dX12_restore_1 : decode cX12_restore 1 = .ok (.iconst 0, 1) := by decide +kernel
theorem dX12_restore_2 : decode cX12_restore 2 = .ok (.putfield 1, 3) := by decide +kernel
theorem dX12_restore_5 : decode cX12_restore 5 = .ok (.iload_n 1, 1) := by decide +kernel
theorem dX12_restore_6 : decode cX12_restore 6 = .ok (.iconst 0, 1) := by decide +kernel
theorem dX12_restore_7 : decode cX12_restore 7 = .ok (.iconst 1, 1) := by decide +kernel
theorem dX12_restore_8 : decode cX12_restore 8 = .ok (.invokestatic 177, 3) := by decide +kernel
theorem dX12_restore_11 : decode cX12_restore 11 = .ok (.ifCond .eq 12, 3) := by decide +kernel
theorem dX12_restore_14 : decode cX12_restore 14 = .ok (.aload_n 0, 1) := by decide +kernel
theorem dX12_restore_15 : decode cX12_restore 15 = .ok (.getfield 78, 3) := by decide +kernel
theorem dX12_restore_18 : decode cX12_restore 18 = .ok (.iload_n 1, 1) := by decide +kernel
theorem dX12_restore_19 : decode cX12_restore 19 = .ok (.baload, 1) := by decide +kernel
theorem dX12_restore_20 : decode cX12_restore 20 = .ok (.ifCond .ne 5, 3) := by decide +kernel
theorem dX12_restore_23 : decode cX12_restore 23 = .ok (.iconst 0, 1) := by decide +kernel
theorem dX12_restore_24 : decode cX12_restore 24 = .ok (.ireturn, 1) := by decide +kernel
theorem dX12_roll_0 : decode cX12_roll 0 = .ok (.aload_n 0, 1) := by decide +kernel
theorem dX12_roll_1 : decode cX12_roll 1 = .ok (.iconst 0, 1) := by decide +kernel
theorem dX12_roll_2 : decode cX12_roll 2 = .ok (.putfield 1, 3) := by decide +kernel
theorem dX12_roll_5 : decode cX12_roll 5 = .ok (.iload_n 1, 1) := by decide +kernel
theorem dX12_roll_6 : decode cX12_roll 6 = .ok (.iconst 0, 1) := by decide +kernel
theorem dX12_roll_7 : decode cX12_roll 7 = .ok (.iconst 1, 1) := by decide +kernel
theorem dX12_roll_8 : decode cX12_roll 8 = .ok (.invokestatic 177, 3) := by decide +kernel
theorem dX12_roll_11 : decode cX12_roll 11 = .ok (.ifCond .ne 7, 3) := by decide +kernel
theorem dX12_roll_14 : decode cX12_roll 14 = .ok (.sipush (-1000), 3) := by decide +kernel
theorem dX12_roll_17 : decode cX12_roll 17 = .ok (.ireturn, 1) := by decide +kernel
theorem dX12_roll_18 : decode cX12_roll 18 = .ok (.aload_n 0, 1) := by decide +kernel
theorem dX12_roll_19 : decode cX12_roll 19 = .ok (.sipush 400, 3) := by decide +kernel
theorem dX12_roll_22 : decode cX12_roll 22 = .ok (.invokevirtual 218, 3) := by decide +kernel
theorem dX12_roll_25 : decode cX12_roll 25 = .ok (.aload_n 0, 1) := by decide +kernel
theorem dX12_roll_26 : decode cX12_roll 26 = .ok (.iconst 0, 1) := by decide +kernel
theorem dX12_roll_27 : decode cX12_roll 27 = .ok (.putfield 162, 3) := by decide +kernel
theorem dX12_roll_30 : decode cX12_roll 30 = .ok (.aload_n 0, 1) := by decide +kernel
theorem dX12_roll_31 : decode cX12_roll 31 = .ok (.iconst 0, 1) := by decide +kernel
theorem dX12_roll_32 : decode cX12_roll 32 = .ok (.putfield 401, 3) := by decide +kernel
theorem dX12_roll_35 : decode cX12_roll 35 = .ok (.aload_n 0, 1) := by decide +kernel
theorem dX12_roll_36 : decode cX12_roll 36 = .ok (.invokevirtual 174, 3) := by decide +kernel
theorem dX12_roll_39 : decode cX12_roll 39 = .ok (.aload_n 0, 1) := by decide +kernel
theorem dX12_roll_40 : decode cX12_roll 40 = .ok (.getfield 145, 3) := by decide +kernel
theorem dX12_roll_43 : decode cX12_roll 43 = .ok (.ifCond .eq 40, 3) := by decide +kernel
theorem dX12_roll_83 : decode cX12_roll 83 = .ok (.aload_n 0, 1) := by decide +kernel
theorem dX12_roll_84 : decode cX12_roll 84 = .ok (.invokevirtual 395, 3) := by decide +kernel
theorem dX12_roll_87 : decode cX12_roll 87 = .ok (.iconst 0, 1) := by decide +kernel
theorem dX12_roll_88 : decode cX12_roll 88 = .ok (.istore_n 2, 1) := by decide +kernel
theorem dX12_roll_89 : decode cX12_roll 89 = .ok (.iload_n 2, 1) := by decide +kernel
theorem dX12_roll_90 : decode cX12_roll 90 = .ok (.iconst 4, 1) := by decide +kernel
theorem dX12_roll_91 : decode cX12_roll 91 = .ok (.if_icmp .ge 16, 3) := by decide +kernel
theorem dX12_roll_94 : decode cX12_roll 94 = .ok (.aload_n 0, 1) := by decide +kernel
theorem dX12_roll_95 : decode cX12_roll 95 = .ok (.getfield 62, 3) := by decide +kernel
theorem dX12_roll_98 : decode cX12_roll 98 = .ok (.iload_n 2, 1) := by decide +kernel
theorem dX12_roll_99 : decode cX12_roll 99 = .ok (.iconst 0, 1) := by decide +kernel
theorem dX12_roll_100 : decode cX12_roll 100 = .ok (.iastore, 1) := by decide +kernel
theorem dX12_roll_101 : decode cX12_roll 101 = .ok (.iinc 2 1, 3) := by decide +kernel
theorem dX12_roll_104 : decode cX12_roll 104 = .ok (.goto (-15), 3) := by decide +kernel
theorem dX12_roll_107 : decode cX12_roll 107 = .ok (.iconst (-1), 1) := by decide +kernel
theorem dX12_roll_108 : decode cX12_roll 108 = .ok (.istore_n 2, 1) := by decide +kernel
theorem dX12_roll_109 : decode cX12_roll 109 = .ok (.iconst 0, 1) := by decide +kernel
theorem dX12_roll_110 : decode cX12_roll 110 = .ok (.istore_n 3, 1) := by decide +kernel
theorem dX12_roll_111 : decode cX12_roll 111 = .ok (.iload_n 3, 1) := by decide +kernel
theorem dX12_roll_112 : decode cX12_roll 112 = .ok (.aload_n 0, 1) := by decide +kernel
theorem dX12_roll_113 : decode cX12_roll 113 = .ok (.getfield 401, 3) := by decide +kernel
theorem dX12_roll_116 : decode cX12_roll 116 = .ok (.if_icmp .ge 117, 3) := by decide +kernel
theorem dX12_roll_233 : decode cX12_roll 233 = .ok (.aload_n 0, 1) := by decide +kernel
theorem dX12_roll_234 : decode cX12_roll 234 = .ok (.getfield 62, 3) := by decide +kernel
theorem dX12_roll_237 : decode cX12_roll 237 = .ok (.iconst 2, 1) := by decide +kernel
theorem dX12_roll_238 : decode cX12_roll 238 = .ok (.aload_n 0, 1) := by decide +kernel
theorem dX12_roll_239 : decode cX12_roll 239 = .ok (.getfield 33, 3) := by decide +kernel
theorem dX12_roll_242 : decode cX12_roll 242 = .ok (.sipush 146, 3) := by decide +kernel
theorem dX12_roll_245 : decode cX12_roll 245 = .ok (.iaload, 1) := by decide +kernel
theorem dX12_roll_246 : decode cX12_roll 246 = .ok (.iastore, 1) := by decide +kernel
theorem dX12_roll_247 : decode cX12_roll 247 = .ok (.aload_n 0, 1) := by decide +kernel
theorem dX12_roll_248 : decode cX12_roll 248 = .ok (.getfield 62, 3) := by decide +kernel
theorem dX12_roll_251 : decode cX12_roll 251 = .ok (.iconst 3, 1) := by decide +kernel
theorem dX12_roll_252 : decode cX12_roll 252 = .ok (.aload_n 0, 1) := by decide +kernel
theorem dX12_roll_253 : decode cX12_roll 253 = .ok (.getfield 33, 3) := by decide +kernel
theorem dX12_roll_256 : decode cX12_roll 256 = .ok (.sipush 151, 3) := by decide +kernel
theorem dX12_roll_259 : decode cX12_roll 259 = .ok (.iaload, 1) := by decide +kernel
theorem dX12_roll_260 : decode cX12_roll 260 = .ok (.iastore, 1) := by decide +kernel
theorem dX12_roll_261 : decode cX12_roll 261 = .ok (.aload_n 0, 1) := by decide +kernel
theorem dX12_roll_262 : decode cX12_roll 262 = .ok (.iconst 1, 1) := by decide +kernel
theorem dX12_roll_263 : decode cX12_roll 263 = .ok (.putfield 415, 3) := by decide +kernel
theorem dX12_roll_266 : decode cX12_roll 266 = .ok (.iload_n 1, 1) := by decide +kernel
theorem dX12_roll_267 : decode cX12_roll 267 = .ok (.iconst 1, 1) := by decide +kernel
theorem dX12_roll_268 : decode cX12_roll 268 = .ok (.if_icmp .ne 54, 3) := by decide +kernel
theorem dX12_roll_271 : decode cX12_roll 271 = .ok (.aload_n 0, 1) := by decide +kernel
theorem dX12_roll_272 : decode cX12_roll 272 = .ok (.getfield 62, 3) := by decide +kernel
theorem dX12_roll_275 : decode cX12_roll 275 = .ok (.iconst 1, 1) := by decide +kernel
theorem dX12_roll_276 : decode cX12_roll 276 = .ok (.iaload, 1) := by decide +kernel
theorem dX12_roll_277 : decode cX12_roll 277 = .ok (.ifCond .le 45, 3) := by decide +kernel
theorem dX12_roll_322 : decode cX12_roll 322 = .ok (.iload_n 1, 1) := by decide +kernel
theorem dX12_roll_323 : decode cX12_roll 323 = .ok (.ifCond .ne 7, 3) := by decide +kernel
theorem dX12_roll_326 : decode cX12_roll 326 = .ok (.aload_n 0, 1) := by decide +kernel
theorem dX12_roll_327 : decode cX12_roll 327 = .ok (.invokevirtual 398, 3) := by decide +kernel
theorem dX12_roll_330 : decode cX12_roll 330 = .ok (.iload_n 2, 1) := by decide +kernel
theorem dX12_roll_331 : decode cX12_roll 331 = .ok (.ireturn, 1) := by decide +kernel
theorem dX12_rolled_0 : decode cX12_rolled 0 = .ok (.aload_n 0, 1) := by decide +kernel
theorem dX12_rolled_1 : decode cX12_rolled 1 = .ok (.iconst 0, 1) := by decide +kernel
theorem dX12_rolled_2 : decode cX12_rolled 2 = .ok (.putfield 1, 3) := by decide +kernel
theorem dX12_rolled_5 : decode cX12_rolled 5 = .ok (.aload_n 0, 1) := by decide +kernel
theorem dX12_rolled_6 : decode cX12_rolled 6 = .ok (.getfield 415, 3) := by decide +kernel
theorem dX12_rolled_9 : decode cX12_rolled 9 = .ok (.ifCond .eq 21, 3) := by decide +kernel
theorem dX12_rolled_30 : decode cX12_rolled 30 = .ok (.iconst (-1), 1) := by decide +kernel
theorem dX12_rolled_31 : decode cX12_rolled 31 = .ok (.ireturn, 1) := by decide +kernel
theorem dX12_said_0 : decode cX12_said 0 = .ok (.aload_n 0, 1) := by decide +kernel
theorem dX12_said_1 : decode cX12_said 1 = .ok (.iconst 0, 1) := by decide +kernel
theorem dX12_said_2 : decode cX12_said 2 = .ok (.putfield 1, 3) := by decide +kernel
theorem dX12_said_5 : decode cX12_said 5 = .ok (.aload_n 0, 1) := by decide +kernel
theorem dX12_said_6 : decode cX12_said 6 = .ok (.getfield 33, 3) := by decide +kernel
theorem dX12_said_9 : decode cX12_said 9 = .ok (.sipush 2006, 3) := by decide +kernel
theorem dX12_said_12 : decode cX12_said 12 = .ok (.iaload, 1) := by decide +kernel
theorem dX12_said_13 : decode cX12_said 13 = .ok (.ifCond .eq 8, 3) := by decide +kernel
theorem dX12_said_21 : decode cX12_said 21 = .ok (.iconst (-1), 1) := by decide +kernel
theorem dX12_said_22 : decode cX12_said 22 = .ok (.ireturn, 1) := by decide +kernel
theorem dX12_sell_0 : decode cX12_sell 0 = .ok (.aload_n 0, 1) := by decide +kernel
theorem dX12_sell_1 : decode cX12_sell 1 = .ok (.iconst 0, 1) := by decide +kernel
theorem dX12_sell_2 : decode cX12_sell 2 = .ok (.putfield 1, 3) := by decide +kernel
theorem dX12_sell_5 : decode cX12_sell 5 = .ok (.aload_n 0, 1) := by decide +kernel
theorem dX12_sell_6 : decode cX12_sell 6 = .ok (.iload_n 1, 1) := by decide +kernel
theorem dX12_sell_7 : decode cX12_sell 7 = .ok (.iload_n 2, 1) := by decide +kernel
theorem dX12_sell_8 : decode cX12_sell 8 = .ok (.invokevirtual 287, 3) := by decide +kernel
theorem dX12_sell_11 : decode cX12_sell 11 = .ok (.ifCond .ne 5, 3) := by decide +kernel
theorem dX12_sell_14 : decode cX12_sell 14 = .ok (.iconst (-1), 1) := by decide +kernel
theorem dX12_sell_15 : decode cX12_sell 15 = .ok (.ireturn, 1) := by decide +kernel
theorem dX12_sentence_0 : decode cX12_sentence 0 = .ok (.aload_n 0, 1) := by decide +kernel
theorem dX12_sentence_1 : decode cX12_sentence 1 = .ok (.iconst 0, 1) := by decide +kernel
theorem dX12_sentence_2 : decode cX12_sentence 2 = .ok (.putfield 1, 3) := by decide +kernel
theorem dX12_sentence_5 : decode cX12_sentence 5 = .ok (.aload_n 0, 1) := by decide +kernel
theorem dX12_sentence_6 : decode cX12_sentence 6 = .ok (.sipush 200, 3) := by decide +kernel
theorem dX12_sentence_9 : decode cX12_sentence 9 = .ok (.invokevirtual 218, 3) := by decide +kernel
theorem dX12_sentence_12 : decode cX12_sentence 12 = .ok (.aload_n 0, 1) := by decide +kernel
theorem dX12_sentence_13 : decode cX12_sentence 13 = .ok (.iconst 0, 1) := by decide +kernel
theorem dX12_sentence_14 : decode cX12_sentence 14 = .ok (.putfield 162, 3) := by decide +kernel
theorem dX12_sentence_17 : decode cX12_sentence 17 = .ok (.aload_n 0, 1) := by decide +kernel
theorem dX12_sentence_18 : decode cX12_sentence 18 = .ok (.iconst 0, 1) := by decide +kernel
theorem dX12_sentence_19 : decode cX12_sentence 19 = .ok (.putfield 418, 3) := by decide +kernel
theorem dX12_sentence_22 : decode cX12_sentence 22 = .ok (.aload_n 0, 1) := by decide +kernel
theorem dX12_sentence_23 : decode cX12_sentence 23 = .ok (.iconst 0, 1) := by decide +kernel
theorem dX12_sentence_24 : decode cX12_sentence 24 = .ok (.putfield 433, 3) := by decide +kernel
theorem dX12_sentence_27 : decode cX12_sentence 27 = .ok (.aload_n 0, 1) := by decide +kernel
theorem dX12_sentence_28 : decode cX12_sentence 28 = .ok (.iconst 0, 1) := by decide +kernel
theorem dX12_sentence_29 : decode cX12_sentence 29 = .ok (.putfield 421, 3) := by decide +kernel
theorem dX12_sentence_32 : decode cX12_sentence 32 = .ok (.aload_n 0, 1) := by decide +kernel
theorem dX12_sentence_33 : decode cX12_sentence 33 = .ok (.iconst 1, 1) := by decide +kernel
theorem dX12_sentence_34 : decode cX12_sentence 34 = .ok (.putfield 427, 3) := by decide +kernel
theorem dX12_sentence_37 : decode cX12_sentence 37 = .ok (.aload_n 0, 1) := by decide +kernel
theorem dX12_sentence_38 : decode cX12_sentence 38 = .ok (.iconst 0, 1) := by decide +kernel
theorem dX12_sentence_39 : decode cX12_sentence 39 = .ok (.putfield 436, 3) := by decide +kernel
theorem dX12_sentence_42 : decode cX12_sentence 42 = .ok (.aload_n 0, 1) := by decide +kernel
theorem dX12_sentence_43 : decode cX12_sentence 43 = .ok (.invokevirtual 174, 3) := by decide +kernel
theorem dX12_sentence_46 : decode cX12_sentence 46 = .ok (.iconst 1, 1) := by decide +kernel
theorem dX12_sentence_47 : decode cX12_sentence 47 = .ok (.istore_n 1, 1) := by decide +kernel
theorem dX12_sentence_48 : decode cX12_sentence 48 = .ok (.iload_n 1, 1) := by decide +kernel
