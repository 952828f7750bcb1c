theorem dX12_partner_11 : decode cX12_partner 11 = .ok (.iconst 1, 1) := by decide +kernel
theorem dX12_partner_12 : decode cX12_partner 12 = .ok (.isub, 1) := by decide +kernel
theorem dX12_partner_13 : decode cX12_partner 13 = .ok (.invokestatic 177, 3) := by decide +kernel
theorem dX12_partner_16 : decode cX12_partner 16 = .ok (.ifCond .eq 12, 3) := by decide +kernel
theorem dX12_partner_19 : decode cX12_partner 19 = .ok (.aload_n 0, 1) := by decide +kernel
theorem dX12_partner_20 : decode cX12_partner 20 = .ok (.getfield 56, 3) := by decide +kernel
theorem dX12_partner_23 : decode cX12_partner 23 = .ok (.iload_n 1, 1) := by decide +kernel
theorem dX12_partner_24 : decode cX12_partner 24 = .ok (.iaload, 1) := by decide +kernel
theorem dX12_partner_25 : decode cX12_partner 25 = .ok (.goto 4, 3) := by decide +kernel
theorem dX12_partner_28 : decode cX12_partner 28 = .ok (.iconst (-1), 1) := by decide +kernel
theorem dX12_partner_29 : decode cX12_partner 29 = .ok (.ireturn, 1) := by decide +kernel
theorem dX12_party_0 : decode cX12_party 0 = .ok (.aload_n 0, 1) := by decide +kernel
theorem dX12_party_1 : decode cX12_party 1 = .ok (.iconst 0, 1) := by decide +kernel
theorem dX12_party_2 : decode cX12_party 2 = .ok (.putfield 1, 3) := by decide +kernel
theorem dX12_party_5 : decode cX12_party 5 = .ok (.iconst (-1), 1) := by decide +kernel
theorem dX12_party_6 : decode cX12_party 6 = .ok (.istore_n 1, 1) := by decide +kernel
theorem dX12_party_7 : decode cX12_party 7 = .ok (.iconst 0, 1) := by decide +kernel
theorem dX12_party_8 : decode cX12_party 8 = .ok (.istore_n 2, 1) := by decide +kernel
theorem dX12_party_9 : decode cX12_party 9 = .ok (.iload_n 2, 1) := by decide +kernel
theorem dX12_party_10 : decode cX12_party 10 = .ok (.iconst 1, 1) := by decide +kernel
theorem dX12_party_11 : decode cX12_party 11 = .ok (.aload_n 0, 1) := by decide +kernel
theorem dX12_party_12 : decode cX12_party 12 = .ok (.getfield 33, 3) := by decide +kernel
theorem dX12_party_15 : decode cX12_party 15 = .ok (.iconst 1, 1) := by decide +kernel
theorem dX12_party_16 : decode cX12_party 16 = .ok (.iaload, 1) := by decide +kernel
theorem dX12_party_17 : decode cX12_party 17 = .ok (.ishl, 1) := by decide +kernel
theorem dX12_party_18 : decode cX12_party 18 = .ok (.if_icmp .ge 47, 3) := by decide +kernel
theorem dX12_party_21 : decode cX12_party 21 = .ok (.iload_n 2, 1) := by decide +kernel
theorem dX12_party_22 : decode cX12_party 22 = .ok (.aload_n 0, 1) := by decide +kernel
theorem dX12_party_23 : decode cX12_party 23 = .ok (.getfield 33, 3) := by decide +kernel
theorem dX12_party_26 : decode cX12_party 26 = .ok (.sipush 147, 3) := by decide +kernel
theorem dX12_party_29 : decode cX12_party 29 = .ok (.iaload, 1) := by decide +kernel
theorem dX12_party_30 : decode cX12_party 30 = .ok (.iand, 1) := by decide +kernel
theorem dX12_party_31 : decode cX12_party 31 = .ok (.ifCond .ne 28, 3) := by decide +kernel
theorem dX12_party_34 : decode cX12_party 34 = .ok (.iload_n 1, 1) := by decide +kernel
theorem dX12_party_35 : decode cX12_party 35 = .ok (.ifCond .lt 14, 3) := by decide +kernel
theorem dX12_party_38 : decode cX12_party 38 = .ok (.iload_n 2, 1) := by decide +kernel
theorem dX12_party_39 : decode cX12_party 39 = .ok (.invokestatic 371, 3) := by decide +kernel
theorem dX12_party_42 : decode cX12_party 42 = .ok (.iload_n 1, 1) := by decide +kernel
theorem dX12_party_43 : decode cX12_party 43 = .ok (.invokestatic 371, 3) := by decide +kernel
theorem dX12_party_46 : decode cX12_party 46 = .ok (.if_icmp .ge 13, 3) := by decide +kernel
theorem dX12_party_49 : decode cX12_party 49 = .ok (.aload_n 0, 1) := by decide +kernel
theorem dX12_party_50 : decode cX12_party 50 = .ok (.iload_n 2, 1) := by decide +kernel
theorem dX12_party_51 : decode cX12_party 51 = .ok (.invokevirtual 374, 3) := by decide +kernel
theorem dX12_party_54 : decode cX12_party 54 = .ok (.ifCond .eq 5, 3) := by decide +kernel
theorem dX12_party_57 : decode cX12_party 57 = .ok (.iload_n 2, 1) := by decide +kernel
theorem dX12_party_58 : decode cX12_party 58 = .ok (.istore_n 1, 1) := by decide +kernel
theorem dX12_party_59 : decode cX12_party 59 = .ok (.iinc 2 1, 3) := by decide +kernel
theorem dX12_party_62 : decode cX12_party 62 = .ok (.goto (-53), 3) := by decide +kernel
theorem dX12_party_65 : decode cX12_party 65 = .ok (.iload_n 1, 1) := by decide +kernel
theorem dX12_party_66 : decode cX12_party 66 = .ok (.ireturn, 1) := by decide +kernel
theorem dX12_pay_0 : decode cX12_pay 0 = .ok (.aload_n 0, 1) := by decide +kernel
theorem dX12_pay_1 : decode cX12_pay 1 = .ok (.iconst 0, 1) := by decide +kernel
theorem dX12_pay_2 : decode cX12_pay 2 = .ok (.putfield 1, 3) := by decide +kernel
theorem dX12_pay_5 : decode cX12_pay 5 = .ok (.aload_n 0, 1) := by decide +kernel
theorem dX12_pay_6 : decode cX12_pay 6 = .ok (.iload_n 1, 1) := by decide +kernel
theorem dX12_pay_7 : decode cX12_pay 7 = .ok (.invokevirtual 236, 3) := by decide +kernel
theorem dX12_pay_10 : decode cX12_pay 10 = .ok (.ifCond .eq 13, 3) := by decide +kernel
theorem dX12_pay_13 : decode cX12_pay 13 = .ok (.iload_n 2, 1) := by decide +kernel
theorem dX12_pay_14 : decode cX12_pay 14 = .ok (.iconst 1, 1) := by decide +kernel
theorem dX12_pay_15 : decode cX12_pay 15 = .ok (.bipush 99, 2) := by decide +kernel
theorem dX12_pay_17 : decode cX12_pay 17 = .ok (.invokestatic 177, 3) := by decide +kernel
theorem dX12_pay_20 : decode cX12_pay 20 = .ok (.ifCond .ne 5, 3) := by decide +kernel
theorem dX12_pay_23 : decode cX12_pay 23 = .ok (.iconst (-1), 1) := by decide +kernel
theorem dX12_pay_24 : decode cX12_pay 24 = .ok (.ireturn, 1) := by decide +kernel
theorem dX12_pay_25 : decode cX12_pay 25 = .ok (.aload_n 0, 1) := by decide +kernel
theorem dX12_pay_26 : decode cX12_pay 26 = .ok (.iload_n 1, 1) := by decide +kernel
theorem dX12_pay_27 : decode cX12_pay 27 = .ok (.iload_n 2, 1) := by decide +kernel
theorem dX12_pay_28 : decode cX12_pay 28 = .ok (.invokevirtual 311, 3) := by decide +kernel
theorem dX12_pay_31 : decode cX12_pay 31 = .ok (.istore_n 3, 1) := by decide +kernel
theorem dX12_pay_32 : decode cX12_pay 32 = .ok (.iload_n 3, 1) := by decide +kernel
theorem dX12_pay_33 : decode cX12_pay 33 = .ok (.ifCond .le 5, 3) := by decide +kernel
theorem dX12_pay_36 : decode cX12_pay 36 = .ok (.iload_n 3, 1) := by decide +kernel
theorem dX12_pay_37 : decode cX12_pay 37 = .ok (.ireturn, 1) := by decide +kernel
theorem dX12_pay_38 : decode cX12_pay 38 = .ok (.aload_n 0, 1) := by decide +kernel
theorem dX12_pay_39 : decode cX12_pay 39 = .ok (.invokevirtual 280, 3) := by decide +kernel
theorem dX12_pay_42 : decode cX12_pay 42 = .ok (.aload_n 0, 1) := by decide +kernel
theorem dX12_pay_43 : decode cX12_pay 43 = .ok (.iload_n 1, 1) := by decide +kernel
theorem dX12_pay_44 : decode cX12_pay 44 = .ok (.iload_n 2, 1) := by decide +kernel
theorem dX12_pay_45 : decode cX12_pay 45 = .ok (.invokevirtual 314, 3) := by decide +kernel
theorem dX12_pay_48 : decode cX12_pay 48 = .ok (.iconst 0, 1) := by decide +kernel
theorem dX12_pay_49 : decode cX12_pay 49 = .ok (.ireturn, 1) := by decide +kernel
theorem dX12_paysOff_0 : decode cX12_paysOff 0 = .ok (.aload_n 0, 1) := by decide +kernel
theorem dX12_paysOff_1 : decode cX12_paysOff 1 = .ok (.getfield 33, 3) := by decide +kernel
theorem dX12_paysOff_4 : decode cX12_paysOff 4 = .ok (.sipush 170, 3) := by decide +kernel
theorem dX12_paysOff_7 : decode cX12_paysOff 7 = .ok (.iload_n 1, 1) := by decide +kernel
theorem dX12_paysOff_8 : decode cX12_paysOff 8 = .ok (.iadd, 1) := by decide +kernel
theorem dX12_paysOff_9 : decode cX12_paysOff 9 = .ok (.dup2, 1) := by decide +kernel
theorem dX12_paysOff_10 : decode cX12_paysOff 10 = .ok (.iaload, 1) := by decide +kernel
theorem dX12_paysOff_11 : decode cX12_paysOff 11 = .ok (.iload_n 2, 1) := by decide +kernel
theorem dX12_paysOff_12 : decode cX12_paysOff 12 = .ok (.isub, 1) := by decide +kernel
theorem dX12_paysOff_13 : decode cX12_paysOff 13 = .ok (.iastore, 1) := by decide +kernel
theorem dX12_paysOff_14 : decode cX12_paysOff 14 = .ok (.aload_n 0, 1) := by decide +kernel
theorem dX12_paysOff_15 : decode cX12_paysOff 15 = .ok (.getfield 33, 3) := by decide +kernel
theorem dX12_paysOff_18 : decode cX12_paysOff 18 = .ok (.sipush 188, 3) := by decide +kernel
theorem dX12_paysOff_21 : decode cX12_paysOff 21 = .ok (.aload_n 0, 1) := by decide +kernel
theorem dX12_paysOff_22 : decode cX12_paysOff 22 = .ok (.getfield 33, 3) := by decide +kernel
theorem dX12_paysOff_25 : decode cX12_paysOff 25 = .ok (.sipush 161, 3) := by decide +kernel
theorem dX12_paysOff_28 : decode cX12_paysOff 28 = .ok (.iload_n 1, 1) := by decide +kernel
theorem dX12_paysOff_29 : decode cX12_paysOff 29 = .ok (.iadd, 1) := by decide +kernel
theorem dX12_paysOff_30 : decode cX12_paysOff 30 = .ok (.iaload, 1) := by decide +kernel
theorem dX12_paysOff_31 : decode cX12_paysOff 31 = .ok (.iadd, 1) := by decide +kernel
theorem dX12_paysOff_32 : decode cX12_paysOff 32 = .ok (.iconst 1, 1) := by decide +kernel
theorem dX12_paysOff_33 : decode cX12_paysOff 33 = .ok (.isub, 1) := by decide +kernel
theorem dX12_paysOff_34 : decode cX12_paysOff 34 = .ok (.dup2, 1) := by decide +kernel
theorem dX12_paysOff_35 : decode cX12_paysOff 35 = .ok (.iaload, 1) := by decide +kernel
theorem dX12_paysOff_36 : decode cX12_paysOff 36 = .ok (.iload_n 2, 1) := by decide +kernel
theorem dX12_paysOff_37 : decode cX12_paysOff 37 = .ok (.isub, 1) := by decide +kernel
theorem dX12_paysOff_38 : decode cX12_paysOff 38 = .ok (.iastore, 1) := by decide +kernel
theorem dX12_paysOff_39 : decode cX12_paysOff 39 = .ok (.return_, 1) := by decide +kernel
theorem dX12_peek_0 : decode cX12_peek 0 = .ok (.aload_n 0, 1) := by decide +kernel
theorem dX12_peek_1 : decode cX12_peek 1 = .ok (.getfield 21, 3) := by decide +kernel
theorem dX12_peek_4 : decode cX12_peek 4 = .ok (.aload_n 0, 1) := by decide +kernel
theorem dX12_peek_5 : decode cX12_peek 5 = .ok (.getfield 18, 3) := by decide +kernel
theorem dX12_peek_8 : decode cX12_peek 8 = .ok (.if_icmp .ge 19, 3) := by decide +kernel
theorem dX12_peek_11 : decode cX12_peek 11 = .ok (.aload_n 0, 1) := by decide +kernel
theorem dX12_peek_12 : decode cX12_peek 12 = .ok (.getfield 14, 3) := by decide +kernel
theorem dX12_peek_15 : decode cX12_peek 15 = .ok (.aload_n 0, 1) := by decide +kernel
theorem dX12_peek_16 : decode cX12_peek 16 = .ok (.getfield 21, 3) := by decide +kernel
theorem dX12_peek_19 : decode cX12_peek 19 = .ok (.baload, 1) := by decide +kernel
theorem dX12_peek_20 : decode cX12_peek 20 = .ok (.sipush 255, 3) := by decide +kernel
theorem dX12_peek_23 : decode cX12_peek 23 = .ok (.iand, 1) := by decide +kernel
theorem dX12_peek_24 : decode cX12_peek 24 = .ok (.goto 4, 3) := by decide +kernel
theorem dX12_peek_27 : decode cX12_peek 27 = .ok (.iconst (-1), 1) := by decide +kernel
theorem dX12_peek_28 : decode cX12_peek 28 = .ok (.ireturn, 1) := by decide +kernel
theorem dX12_placeOf_0 : decode cX12_placeOf 0 = .ok (.iconst 0, 1) := by decide +kernel
theorem dX12_placeOf_1 : decode cX12_placeOf 1 = .ok (.istore_n 2, 1) := by decide +kernel
theorem dX12_placeOf_2 : decode cX12_placeOf 2 = .ok (.iload_n 2, 1) := by decide +kernel
theorem dX12_placeOf_3 : decode cX12_placeOf 3 = .ok (.aload_n 0, 1) := by decide +kernel
theorem dX12_placeOf_4 : decode cX12_placeOf 4 = .ok (.getfield 33, 3) := by decide +kernel
theorem dX12_placeOf_7 : decode cX12_placeOf 7 = .ok (.sipush 151, 3) := by decide +kernel
theorem dX12_placeOf_10 : decode cX12_placeOf 10 = .ok (.iaload, 1) := by decide +kernel
theorem dX12_placeOf_11 : decode cX12_placeOf 11 = .ok (.if_icmp .ge 25, 3) := by decide +kernel
theorem dX12_placeOf_14 : decode cX12_placeOf 14 = .ok (.aload_n 0, 1) := by decide +kernel
theorem dX12_placeOf_15 : decode cX12_placeOf 15 = .ok (.getfield 33, 3) := by decide +kernel
theorem dX12_placeOf_18 : decode cX12_placeOf 18 = .ok (.sipush 152, 3) := by decide +kernel
theorem dX12_placeOf_21 : decode cX12_placeOf 21 = .ok (.iload_n 2, 1) := by decide +kernel
theorem dX12_placeOf_22 : decode cX12_placeOf 22 = .ok (.iadd, 1) := by decide +kernel
theorem dX12_placeOf_23 : decode cX12_placeOf 23 = .ok (.iaload, 1) := by decide +kernel
theorem dX12_placeOf_24 : decode cX12_placeOf 24 = .ok (.iload_n 1, 1) := by decide +kernel
theorem dX12_placeOf_25 : decode cX12_placeOf 25 = .ok (.if_icmp .ne 5, 3) := by decide +kernel
theorem dX12_placeOf_28 : decode cX12_placeOf 28 = .ok (.iload_n 2, 1) := by decide +kernel
theorem dX12_placeOf_29 : decode cX12_placeOf 29 = .ok (.ireturn, 1) := by decide +kernel
theorem dX12_placeOf_30 : decode cX12_placeOf 30 = .ok (.iinc 2 1, 3) := by decide +kernel
theorem dX12_placeOf_33 : decode cX12_placeOf 33 = .ok (.goto (-31), 3) := by decide +kernel
theorem dX12_placeOf_36 : decode cX12_placeOf 36 = .ok (.iconst (-1), 1) := by decide +kernel
theorem dX12_placeOf_37 : decode cX12_placeOf 37 = .ok (.ireturn, 1) := by decide +kernel
theorem dX12_puts_0 : decode cX12_puts 0 = .ok (.aload_n 0, 1) := by decide +kernel
theorem dX12_puts_1 : decode cX12_puts 1 = .ok (.iload_n 2, 1) := by decide +kernel
theorem dX12_puts_2 : decode cX12_puts 2 = .ok (.iload_n 3, 1) := by decide +kernel
theorem dX12_puts_3 : decode cX12_puts 3 = .ok (.invokevirtual 184, 3) := by decide +kernel
theorem dX12_puts_6 : decode cX12_puts 6 = .ok (.ifCond .ne 5, 3) := by decide +kernel
theorem dX12_puts_9 : decode cX12_puts 9 = .ok (.iconst 0, 1) := by decide +kernel
theorem dX12_puts_10 : decode cX12_puts 10 = .ok (.ireturn, 1) := by decide +kernel
theorem dX12_puts_11 : decode cX12_puts 11 = .ok (.aload_n 0, 1) := by decide +kernel
theorem dX12_puts_12 : decode cX12_puts 12 = .ok (.getfield 37, 3) := by decide +kernel
theorem dX12_puts_15 : decode cX12_puts 15 = .ok (.iload_n 1, 1) := by decide +kernel
theorem dX12_puts_16 : decode cX12_puts 16 = .ok (.aload_n 0, 1) := by decide +kernel
theorem dX12_puts_17 : decode cX12_puts 17 = .ok (.getfield 181, 3) := by decide +kernel
theorem dX12_puts_20 : decode cX12_puts 20 = .ok (.iastore, 1) := by decide +kernel
theorem dX12_puts_21 : decode cX12_puts 21 = .ok (.iconst 1, 1) := by decide +kernel
theorem dX12_puts_22 : decode cX12_puts 22 = .ok (.ireturn, 1) := by decide +kernel
theorem dX12_queue_0 : decode cX12_queue 0 = .ok (.aload_n 0, 1) := by decide +kernel
theorem dX12_queue_1 : decode cX12_queue 1 = .ok (.iconst 0, 1) := by decide +kernel
theorem dX12_queue_2 : decode cX12_queue 2 = .ok (.putfield 1, 3) := by decide +kernel
theorem dX12_queue_5 : decode cX12_queue 5 = .ok (.iload_n 1, 1) := by decide +kernel
theorem dX12_queue_6 : decode cX12_queue 6 = .ok (.iconst 0, 1) := by decide +kernel
theorem dX12_queue_7 : decode cX12_queue 7 = .ok (.aload_n 0, 1) := by decide +kernel
theorem dX12_queue_8 : decode cX12_queue 8 = .ok (.getfield 33, 3) := by decide +kernel
theorem dX12_queue_11 : decode cX12_queue 11 = .ok (.sipush 151, 3) := by decide +kernel
theorem dX12_queue_14 : decode cX12_queue 14 = .ok (.iaload, 1) := by decide +kernel
theorem dX12_queue_15 : decode cX12_queue 15 = .ok (.iconst 1, 1) := by decide +kernel
theorem dX12_queue_16 : decode cX12_queue 16 = .ok (.isub, 1) := by decide +kernel
theorem dX12_queue_17 : decode cX12_queue 17 = .ok (.invokestatic 177, 3) := by decide +kernel
theorem dX12_queue_20 : decode cX12_queue 20 = .ok (.ifCond .eq 16, 3) := by decide +kernel
theorem dX12_queue_23 : decode cX12_queue 23 = .ok (.aload_n 0, 1) := by decide +kernel
theorem dX12_queue_24 : decode cX12_queue 24 = .ok (.getfield 33, 3) := by decide +kernel
theorem dX12_queue_27 : decode cX12_queue 27 = .ok (.sipush 152, 3) := by decide +kernel
theorem dX12_queue_30 : decode cX12_queue 30 = .ok (.iload_n 1, 1) := by decide +kernel
theorem dX12_queue_31 : decode cX12_queue 31 = .ok (.iadd, 1) := by decide +kernel
theorem dX12_queue_32 : decode cX12_queue 32 = .ok (.iaload, 1) := by decide +kernel
theorem dX12_queue_33 : decode cX12_queue 33 = .ok (.goto 4, 3) := by decide +kernel
theorem dX12_queue_36 : decode cX12_queue 36 = .ok (.iconst (-1), 1) := by decide +kernel
theorem dX12_queue_37 : decode cX12_queue 37 = .ok (.ireturn, 1) := by decide +kernel
theorem dX12_readSoul_0 : decode cX12_readSoul 0 = .ok (.aload_n 0, 1) := by decide +kernel
theorem dX12_readSoul_1 : decode cX12_readSoul 1 = .ok (.getfield 37, 3) := by decide +kernel
theorem dX12_readSoul_4 : decode cX12_readSoul 4 = .ok (.iconst 1, 1) := by decide +kernel
theorem dX12_readSoul_5 : decode cX12_readSoul 5 = .ok (.iaload, 1) := by decide +kernel
theorem dX12_readSoul_6 : decode cX12_readSoul 6 = .ok (.istore_n 1, 1) := by decide +kernel
theorem dX12_readSoul_7 : decode cX12_readSoul 7 = .ok (.iload_n 1, 1) := by decide +kernel
theorem dX12_readSoul_8 : decode cX12_readSoul 8 = .ok (.bipush 9, 2) := by decide +kernel
theorem dX12_readSoul_10 : decode cX12_readSoul 10 = .ok (.if_icmp .ne 9, 3) := by decide +kernel
theorem dX12_readSoul_13 : decode cX12_readSoul 13 = .ok (.aload_n 0, 1) := by decide +kernel
theorem dX12_readSoul_14 : decode cX12_readSoul 14 = .ok (.iconst 4, 1) := by decide +kernel
theorem dX12_readSoul_15 : decode cX12_readSoul 15 = .ok (.invokevirtual 171, 3) := by decide +kernel
theorem dX12_readSoul_18 : decode cX12_readSoul 18 = .ok (.ireturn, 1) := by decide +kernel
theorem dX12_readSoul_19 : decode cX12_readSoul 19 = .ok (.aload_n 0, 1) := by decide +kernel
theorem dX12_readSoul_20 : decode cX12_readSoul 20 = .ok (.invokevirtual 174, 3) := by decide +kernel
theorem dX12_readSoul_23 : decode cX12_readSoul 23 = .ok (.aload_n 0, 1) := by decide +kernel
theorem dX12_readSoul_24 : decode cX12_readSoul 24 = .ok (.bipush 27, 2) := by decide +kernel
theorem dX12_readSoul_26 : decode cX12_readSoul 26 = .ok (.iload_n 1, 1) := by decide +kernel
theorem dX12_readSoul_27 : decode cX12_readSoul 27 = .ok (.iadd, 1) := by decide +kernel
theorem dX12_readSoul_28 : decode cX12_readSoul 28 = .ok (.invokevirtual 200, 3) := by decide +kernel
theorem dX12_readSoul_31 : decode cX12_readSoul 31 = .ok (.ifCond .eq 18, 3) := by decide +kernel
theorem dX12_readSoul_34 : decode cX12_readSoul 34 = .ok (.aload_n 0, 1) := by decide +kernel
theorem dX12_readSoul_35 : decode cX12_readSoul 35 = .ok (.bipush 29, 2) := by decide +kernel
theorem dX12_readSoul_37 : decode cX12_readSoul 37 = .ok (.iload_n 1, 1) := by decide +kernel
theorem dX12_readSoul_38 : decode cX12_readSoul 38 = .ok (.iadd, 1) := by decide +kernel
theorem dX12_readSoul_39 : decode cX12_readSoul 39 = .ok (.iconst 0, 1) := by decide +kernel
theorem dX12_readSoul_40 : decode cX12_readSoul 40 = .ok (.sipush 999, 3) := by decide +kernel
theorem dX12_readSoul_43 : decode cX12_readSoul 43 = .ok (.invokevirtual 203, 3) := by decide +kernel
theorem dX12_readSoul_46 : decode cX12_readSoul 46 = .ok (.ifCond .ne 5, 3) := by decide +kernel
theorem dX12_readSoul_49 : decode cX12_readSoul 49 = .ok (.iconst 0, 1) := by decide +kernel
theorem dX12_readSoul_50 : decode cX12_readSoul 50 = .ok (.ireturn, 1) := by decide +kernel
theorem dX12_readSoul_51 : decode cX12_readSoul 51 = .ok (.aload_n 0, 1) := by decide +kernel
theorem dX12_readSoul_52 : decode cX12_readSoul 52 = .ok (.getfield 37, 3) := by decide +kernel
theorem dX12_readSoul_55 : decode cX12_readSoul 55 = .ok (.bipush 38, 2) := by decide +kernel
theorem dX12_readSoul_57 : decode cX12_readSoul 57 = .ok (.iload_n 1, 1) := by decide +kernel
theorem dX12_readSoul_58 : decode cX12_readSoul 58 = .ok (.iadd, 1) := by decide +kernel
theorem dX12_readSoul_59 : decode cX12_readSoul 59 = .ok (.iconst 0, 1) := by decide +kernel
theorem dX12_readSoul_60 : decode cX12_readSoul 60 = .ok (.iastore, 1) := by decide +kernel
theorem dX12_readSoul_61 : decode cX12_readSoul 61 = .ok (.aload_n 0, 1) := by decide +kernel
theorem dX12_readSoul_62 : decode cX12_readSoul 62 = .ok (.ldc2_w 89, 3) := by decide +kernel
theorem dX12_readSoul_65 : decode cX12_readSoul 65 = .ok (.invokevirtual 196, 3) := by decide +kernel
theorem dX12_readSoul_68 : decode cX12_readSoul 68 = .ok (.ifCond .eq 80, 3) := by decide +kernel
theorem dX12_readSoul_71 : decode cX12_readSoul 71 = .ok (.aload_n 0, 1) := by decide +kernel
theorem dX12_readSoul_72 : decode cX12_readSoul 72 = .ok (.invokevirtual 174, 3) := by decide +kernel
theorem dX12_readSoul_75 : decode cX12_readSoul 75 = .ok (.aload_n 0, 1) := by decide +kernel
theorem dX12_readSoul_76 : decode cX12_readSoul 76 = .ok (.bipush 18, 2) := by decide +kernel
theorem dX12_readSoul_78 : decode cX12_readSoul 78 = .ok (.aload_n 0, 1) := by decide +kernel
theorem dX12_readSoul_79 : decode cX12_readSoul 79 = .ok (.getfield 37, 3) := by decide +kernel
theorem dX12_readSoul_82 : decode cX12_readSoul 82 = .ok (.iconst 0, 1) := by decide +kernel
theorem dX12_readSoul_83 : decode cX12_readSoul 83 = .ok (.iaload, 1) := by decide +kernel
theorem dX12_readSoul_84 : decode cX12_readSoul 84 = .ok (.invokevirtual 209, 3) := by decide +kernel
theorem dX12_readSoul_87 : decode cX12_readSoul 87 = .ok (.ifCond .ne 5, 3) := by decide +kernel
theorem dX12_readSoul_90 : decode cX12_readSoul 90 = .ok (.iconst 0, 1) := by decide +kernel
theorem dX12_readSoul_91 : decode cX12_readSoul 91 = .ok (.ireturn, 1) := by decide +kernel
theorem dX12_readSoul_92 : decode cX12_readSoul 92 = .ok (.iconst 0, 1) := by decide +kernel
theorem dX12_readSoul_93 : decode cX12_readSoul 93 = .ok (.istore_n 2, 1) := by decide +kernel
theorem dX12_readSoul_94 : decode cX12_readSoul 94 = .ok (.iload_n 2, 1) := by decide +kernel
theorem dX12_readSoul_95 : decode cX12_readSoul 95 = .ok (.iload_n 1, 1) := by decide +kernel
theorem dX12_readSoul_96 : decode cX12_readSoul 96 = .ok (.if_icmp .ge 33, 3) := by decide +kernel
theorem dX12_readSoul_99 : decode cX12_readSoul 99 = .ok (.aload_n 0, 1) := by decide +kernel
theorem dX12_readSoul_100 : decode cX12_readSoul 100 = .ok (.getfield 37, 3) := by decide +kernel
theorem dX12_readSoul_103 : decode cX12_readSoul 103 = .ok (.bipush 38, 2) := by decide +kernel
theorem dX12_readSoul_105 : decode cX12_readSoul 105 = .ok (.iload_n 2, 1) := by decide +kernel
theorem dX12_readSoul_106 : decode cX12_readSoul 106 = .ok (.iadd, 1) := by decide +kernel
theorem dX12_readSoul_107 : decode cX12_readSoul 107 = .ok (.iaload, 1) := by decide +kernel
theorem dX12_readSoul_108 : decode cX12_readSoul 108 = .ok (.aload_n 0, 1) := by decide +kernel
theorem dX12_readSoul_109 : decode cX12_readSoul 109 = .ok (.getfield 181, 3) := by decide +kernel
theorem dX12_readSoul_112 : decode cX12_readSoul 112 = .ok (.iconst 1, 1) := by decide +kernel
theorem dX12_readSoul_113 : decode cX12_readSoul 113 = .ok (.iadd, 1) := by decide +kernel
theorem dX12_readSoul_114 : decode cX12_readSoul 114 = .ok (.if_icmp .ne 9, 3) := by decide +kernel
theorem dX12_readSoul_117 : decode cX12_readSoul 117 = .ok (.aload_n 0, 1) := by decide +kernel
theorem dX12_readSoul_118 : decode cX12_readSoul 118 = .ok (.iconst 3, 1) := by decide +kernel
theorem dX12_readSoul_119 : decode cX12_readSoul 119 = .ok (.invokevirtual 171, 3) := by decide +kernel
theorem dX12_readSoul_122 : decode cX12_readSoul 122 = .ok (.ireturn, 1) := by decide +kernel
theorem dX12_readSoul_123 : decode cX12_readSoul 123 = .ok (.iinc 2 1, 3) := by decide +kernel
theorem dX12_readSoul_126 : decode cX12_readSoul 126 = .ok (.goto (-32), 3) := by decide +kernel
theorem dX12_readSoul_129 : decode cX12_readSoul 129 = .ok (.aload_n 0, 1) := by decide +kernel
theorem dX12_readSoul_130 : decode cX12_readSoul 130 = .ok (.getfield 37, 3) := by decide +kernel
theorem dX12_readSoul_133 : decode cX12_readSoul 133 = .ok (.bipush 38, 2) := by decide +kernel
theorem dX12_readSoul_135 : decode cX12_readSoul 135 = .ok (.iload_n 1, 1) := by decide +kernel
theorem dX12_readSoul_136 : decode cX12_readSoul 136 = .ok (.iadd, 1) := by decide +kernel
theorem dX12_readSoul_137 : decode cX12_readSoul 137 = .ok (.aload_n 0, 1) := by decide +kernel
theorem dX12_readSoul_138 : decode cX12_readSoul 138 = .ok (.getfield 181, 3) := by decide +kernel
theorem dX12_readSoul_141 : decode cX12_readSoul 141 = .ok (.iconst 1, 1) := by decide +kernel
theorem dX12_readSoul_142 : decode cX12_readSoul 142 = .ok (.iadd, 1) := by decide +kernel
theorem dX12_readSoul_143 : decode cX12_readSoul 143 = .ok (.iastore, 1) := by decide +kernel
theorem dX12_readSoul_144 : decode cX12_readSoul 144 = .ok (.aload_n 0, 1) := by decide +kernel
theorem dX12_readSoul_145 : decode cX12_readSoul 145 = .ok (.invokevirtual 174, 3) := by decide +kernel
theorem dX12_readSoul_148 : decode cX12_readSoul 148 = .ok (.aload_n 0, 1) := by decide +kernel
theorem dX12_readSoul_149 : decode cX12_readSoul 149 = .ok (.getfield 37, 3) := by decide +kernel
theorem dX12_readSoul_152 : decode cX12_readSoul 152 = .ok (.iconst 1, 1) := by decide +kernel
theorem dX12_readSoul_153 : decode cX12_readSoul 153 = .ok (.dup2, 1) := by decide +kernel
theorem dX12_readSoul_154 : decode cX12_readSoul 154 = .ok (.iaload, 1) := by decide +kernel
theorem dX12_readSoul_155 : decode cX12_readSoul 155 = .ok (.iconst 1, 1) := by decide +kernel
theorem dX12_readSoul_156 : decode cX12_readSoul 156 = .ok (.iadd, 1) := by decide +kernel
theorem dX12_readSoul_157 : decode cX12_readSoul 157 = .ok (.iastore, 1) := by decide +kernel
theorem dX12_readSoul_158 : decode cX12_readSoul 158 = .ok (.iconst 1, 1) := by decide +kernel
theorem dX12_readSoul_159 : decode cX12_readSoul 159 = .ok (.ireturn, 1) := by decide +kernel
theorem dX12_restore_0 : decode cX12_restore 0 = .ok (.aload_n 0, 1) := by decide +kernel
theorem dX12_restore_1 : decode cX12_restore 1 = .ok (.iconst 0, 1) := by decide +kernel
theorem dX12_restore_2 : decode cX12_restore 2 = .ok (.putfield 1, 3) := by decide +kernel
theorem dX12_restore_5 : decode cX12_restore 5 = .ok (.iload_n 1, 1) := by decide +kernel
theorem dX12_restore_6 : decode cX12_restore 6 = .ok (.iconst 0, 1) := by decide +kernel
theorem dX12_restore_7 : decode cX12_restore 7 = .ok (.iconst 1, 1) := by decide +kernel
theorem dX12_restore_8 : decode cX12_restore 8 = .ok (.invokestatic 177, 3) := by decide +kernel
theorem dX12_restore_11 : decode cX12_restore 11 = .ok (.ifCond .eq 12, 3) := by decide +kernel
theorem dX12_restore_14 : decode cX12_restore 14 = .ok (.aload_n 0, 1) := by decide +kernel
theorem dX12_restore_15 : decode cX12_restore 15 = .ok (.getfield 78, 3) := by decide +kernel
theorem dX12_restore_18 : decode cX12_restore 18 = .ok (.iload_n 1, 1) := by decide +kernel
theorem dX12_restore_19 : decode cX12_restore 19 = .ok (.baload, 1) := by decide +kernel
theorem dX12_restore_20 : decode cX12_restore 20 = .ok (.ifCond .ne 5, 3) := by decide +kernel
theorem dX12_restore_23 : decode cX12_restore 23 = .ok (.iconst 0, 1) := by decide +kernel
theorem dX12_restore_24 : decode cX12_restore 24 = .ok (.ireturn, 1) := by decide +kernel
theorem dX12_restore_25 : decode cX12_restore 25 = .ok (.iconst 0, 1) := by decide +kernel
theorem dX12_restore_26 : decode cX12_restore 26 = .ok (.istore_n 2, 1) := by decide +kernel
theorem dX12_restore_27 : decode cX12_restore 27 = .ok (.iload_n 2, 1) := by decide +kernel
theorem dX12_restore_28 : decode cX12_restore 28 = .ok (.sipush 2187, 3) := by decide +kernel
theorem dX12_restore_31 : decode cX12_restore 31 = .ok (.if_icmp .ge 27, 3) := by decide +kernel
theorem dX12_restore_34 : decode cX12_restore 34 = .ok (.aload_n 0, 1) := by decide +kernel
theorem dX12_restore_35 : decode cX12_restore 35 = .ok (.getfield 33, 3) := by decide +kernel
theorem dX12_restore_38 : decode cX12_restore 38 = .ok (.iload_n 2, 1) := by decide +kernel
theorem dX12_restore_39 : decode cX12_restore 39 = .ok (.aload_n 0, 1) := by decide +kernel
theorem dX12_restore_40 : decode cX12_restore 40 = .ok (.getfield 72, 3) := by decide +kernel
theorem dX12_restore_43 : decode cX12_restore 43 = .ok (.sipush 2187, 3) := by decide +kernel
theorem dX12_restore_46 : decode cX12_restore 46 = .ok (.iload_n 1, 1) := by decide +kernel
theorem dX12_restore_47 : decode cX12_restore 47 = .ok (.imul, 1) := by decide +kernel
theorem dX12_restore_48 : decode cX12_restore 48 = .ok (.iload_n 2, 1) := by decide +kernel
theorem dX12_restore_49 : decode cX12_restore 49 = .ok (.iadd, 1) := by decide +kernel
theorem dX12_restore_50 : decode cX12_restore 50 = .ok (.iaload, 1) := by decide +kernel
theorem dX12_restore_51 : decode cX12_restore 51 = .ok (.iastore, 1) := by decide +kernel
theorem dX12_restore_52 : decode cX12_restore 52 = .ok (.iinc 2 1, 3) := by decide +kernel
theorem dX12_restore_55 : decode cX12_restore 55 = .ok (.goto (-28), 3) := by decide +kernel
theorem dX12_restore_58 : decode cX12_restore 58 = .ok (.iconst 0, 1) := by decide +kernel
theorem dX12_restore_59 : decode cX12_restore 59 = .ok (.istore_n 2, 1) := by decide +kernel
theorem dX12_restore_60 : decode cX12_restore 60 = .ok (.iload_n 2, 1) := by decide +kernel
theorem dX12_restore_61 : decode cX12_restore 61 = .ok (.bipush 18, 2) := by decide +kernel
theorem dX12_restore_63 : decode cX12_restore 63 = .ok (.if_icmp .ge 26, 3) := by decide +kernel
theorem dX12_restore_66 : decode cX12_restore 66 = .ok (.aload_n 0, 1) := by decide +kernel
theorem dX12_restore_67 : decode cX12_restore 67 = .ok (.getfield 43, 3) := by decide +kernel
theorem dX12_restore_70 : decode cX12_restore 70 = .ok (.iload_n 2, 1) := by decide +kernel
theorem dX12_restore_71 : decode cX12_restore 71 = .ok (.aload_n 0, 1) := by decide +kernel
theorem dX12_restore_72 : decode cX12_restore 72 = .ok (.getfield 75, 3) := by decide +kernel
theorem dX12_restore_75 : decode cX12_restore 75 = .ok (.bipush 18, 2) := by decide +kernel
theorem dX12_restore_77 : decode cX12_restore 77 = .ok (.iload_n 1, 1) := by decide +kernel
theorem dX12_restore_78 : decode cX12_restore 78 = .ok (.imul, 1) := by decide +kernel
theorem dX12_restore_79 : decode cX12_restore 79 = .ok (.iload_n 2, 1) := by decide +kernel
theorem dX12_restore_80 : decode cX12_restore 80 = .ok (.iadd, 1) := by decide +kernel
theorem dX12_restore_81 : decode cX12_restore 81 = .ok (.laload, 1) := by decide +kernel
theorem dX12_restore_82 : decode cX12_restore 82 = .ok (.lastore, 1) := by decide +kernel
theorem dX12_restore_83 : decode cX12_restore 83 = .ok (.iinc 2 1, 3) := by decide +kernel
theorem dX12_restore_86 : decode cX12_restore 86 = .ok (.goto (-26), 3) := by decide +kernel
theorem dX12_restore_89 : decode cX12_restore 89 = .ok (.aload_n 0, 1) := by decide +kernel
theorem dX12_restore_90 : decode cX12_restore 90 = .ok (.iconst 0, 1) := by decide +kernel
theorem dX12_restore_91 : decode cX12_restore 91 = .ok (.putfield 233, 3) := by decide +kernel
theorem dX12_restore_94 : decode cX12_restore 94 = .ok (.iconst 1, 1) := by decide +kernel
theorem dX12_restore_95 : decode cX12_restore 95 = .ok (.ireturn, 1) := by decide +kernel
theorem dX12_roll_0 : decode cX12_roll 0 = .ok (.aload_n 0, 1) := by decide +kernel
theorem dX12_roll_1 : decode cX12_roll 1 = .ok (.iconst 0, 1) := by decide +kernel
theorem dX12_roll_2 : decode cX12_roll 2 = .ok (.putfield 1, 3) := by decide +kernel
theorem dX12_roll_5 : decode cX12_roll 5 = .ok (.iload_n 1, 1) := by decide +kernel
theorem dX12_roll_6 : decode cX12_roll 6 = .ok (.iconst 0, 1) := by decide +kernel
theorem dX12_roll_7 : decode cX12_roll 7 = .ok (.iconst 1, 1) := by decide +kernel
theorem dX12_roll_8 : decode cX12_roll 8 = .ok (.invokestatic 177, 3) := by decide +kernel
theorem dX12_roll_11 : decode cX12_roll 11 = .ok (.ifCond .ne 7, 3) := by decide +kernel
theorem dX12_roll_14 : decode cX12_roll 14 = .ok (.sipush (-1000), 3) := by decide +kernel
theorem dX12_roll_17 : decode cX12_roll 17 = .ok (.ireturn, 1) := by decide +kernel
theorem dX12_roll_18 : decode cX12_roll 18 = .ok (.aload_n 0, 1) := by decide +kernel
theorem dX12_roll_19 : decode cX12_roll 19 = .ok (.sipush 400, 3) := by decide +kernel
theorem dX12_roll_22 : decode cX12_roll 22 = .ok (.invokevirtual 218, 3) := by decide +kernel
theorem dX12_roll_25 : decode cX12_roll 25 = .ok (.aload_n 0, 1) := by decide +kernel
theorem dX12_roll_26 : decode cX12_roll 26 = .ok (.iconst 0, 1) := by decide +kernel
theorem dX12_roll_27 : decode cX12_roll 27 = .ok (.putfield 162, 3) := by decide +kernel
theorem dX12_roll_30 : decode cX12_roll 30 = .ok (.aload_n 0, 1) := by decide +kernel
theorem dX12_roll_31 : decode cX12_roll 31 = .ok (.iconst 0, 1) := by decide +kernel
theorem dX12_roll_32 : decode cX12_roll 32 = .ok (.putfield 401, 3) := by decide +kernel
theorem dX12_roll_35 : decode cX12_roll 35 = .ok (.aload_n 0, 1) := by decide +kernel
theorem dX12_roll_36 : decode cX12_roll 36 = .ok (.invokevirtual 174, 3) := by decide +kernel
theorem dX12_roll_39 : decode cX12_roll 39 = .ok (.aload_n 0, 1) := by decide +kernel
theorem dX12_roll_40 : decode cX12_roll 40 = .ok (.getfield 145, 3) := by decide +kernel
theorem dX12_roll_43 : decode cX12_roll 43 = .ok (.ifCond .eq 40, 3) := by decide +kernel
theorem dX12_roll_46 : decode cX12_roll 46 = .ok (.aload_n 0, 1) := by decide +kernel
theorem dX12_roll_47 : decode cX12_roll 47 = .ok (.invokevirtual 404, 3) := by decide +kernel
theorem dX12_roll_50 : decode cX12_roll 50 = .ok (.ifCond .eq 12, 3) := by decide +kernel
theorem dX12_roll_53 : decode cX12_roll 53 = .ok (.aload_n 0, 1) := by decide +kernel
theorem dX12_roll_54 : decode cX12_roll 54 = .ok (.bipush 59, 2) := by decide +kernel
theorem dX12_roll_56 : decode cX12_roll 56 = .ok (.invokevirtual 227, 3) := by decide +kernel
theorem dX12_roll_59 : decode cX12_roll 59 = .ok (.ifCond .ne 11, 3) := by decide +kernel
theorem dX12_roll_62 : decode cX12_roll 62 = .ok (.bipush (-2), 2) := by decide +kernel
theorem dX12_roll_64 : decode cX12_roll 64 = .ok (.aload_n 0, 1) := by decide +kernel
theorem dX12_roll_65 : decode cX12_roll 65 = .ok (.getfield 165, 3) := by decide +kernel
theorem dX12_roll_68 : decode cX12_roll 68 = .ok (.isub, 1) := by decide +kernel
theorem dX12_roll_69 : decode cX12_roll 69 = .ok (.ireturn, 1) := by decide +kernel
theorem dX12_roll_70 : decode cX12_roll 70 = .ok (.aload_n 0, 1) := by decide +kernel
theorem dX12_roll_71 : decode cX12_roll 71 = .ok (.dup, 1) := by decide +kernel
theorem dX12_roll_72 : decode cX12_roll 72 = .ok (.getfield 401, 3) := by decide +kernel
theorem dX12_roll_75 : decode cX12_roll 75 = .ok (.iconst 1, 1) := by decide +kernel
theorem dX12_roll_76 : decode cX12_roll 76 = .ok (.iadd, 1) := by decide +kernel
theorem dX12_roll_77 : decode cX12_roll 77 = .ok (.putfield 401, 3) := by decide +kernel
theorem dX12_roll_80 : decode cX12_roll 80 = .ok (.goto (-41), 3) := by decide +kernel
theorem dX12_roll_83 : decode cX12_roll 83 = .ok (.aload_n 0, 1) := by decide +kernel
theorem dX12_roll_84 : decode cX12_roll 84 = .ok (.invokevirtual 395, 3) := by decide +kernel
theorem dX12_roll_87 : decode cX12_roll 87 = .ok (.iconst 0, 1) := by decide +kernel
theorem dX12_roll_88 : decode cX12_roll 88 = .ok (.istore_n 2, 1) := by decide +kernel
theorem dX12_roll_89 : decode cX12_roll 89 = .ok (.iload_n 2, 1) := by decide +kernel
theorem dX12_roll_90 : decode cX12_roll 90 = .ok (.iconst 4, 1) := by decide +kernel
theorem dX12_roll_91 : decode cX12_roll 91 = .ok (.if_icmp .ge 16, 3) := by decide +kernel
theorem dX12_roll_94 : decode cX12_roll 94 = .ok (.aload_n 0, 1) := by decide +kernel
theorem dX12_roll_95 : decode cX12_roll 95 = .ok (.getfield 62, 3) := by decide +kernel
theorem dX12_roll_98 : decode cX12_roll 98 = .ok (.iload_n 2, 1) := by decide +kernel
theorem dX12_roll_99 : decode cX12_roll 99 = .ok (.iconst 0, 1) := by decide +kernel
theorem dX12_roll_100 : decode cX12_roll 100 = .ok (.iastore, 1) := by decide +kernel
theorem dX12_roll_101 : decode cX12_roll 101 = .ok (.iinc 2 1, 3) := by decide +kernel
theorem dX12_roll_104 : decode cX12_roll 104 = .ok (.goto (-15), 3) := by decide +kernel
theorem dX12_roll_107 : decode cX12_roll 107 = .ok (.iconst (-1), 1) := by decide +kernel
theorem dX12_roll_108 : decode cX12_roll 108 = .ok (.istore_n 2, 1) := by decide +kernel
theorem dX12_roll_109 : decode cX12_roll 109 = .ok (.iconst 0, 1) := by decide +kernel
theorem dX12_roll_110 : decode cX12_roll 110 = .ok (.istore_n 3, 1) := by decide +kernel
theorem dX12_roll_111 : decode cX12_roll 111 = .ok (.iload_n 3, 1) := by decide +kernel
