theorem dX11_howLong_27 : decode cX11_howLong 27 = .ok (.iload_n 2, 1) := by decide +kernel
theorem dX11_howLong_28 : decode cX11_howLong 28 = .ok (.invokevirtual 272, 3) := by decide +kernel
theorem dX11_howLong_31 : decode cX11_howLong 31 = .ok (.goto 4, 3) := by decide +kernel
theorem dX11_howLong_34 : decode cX11_howLong 34 = .ok (.iconst (-1), 1) := by decide +kernel
theorem dX11_howLong_35 : decode cX11_howLong 35 = .ok (.ireturn, 1) := by decide +kernel
theorem dX11_image_0 : decode cX11_image 0 = .ok (.iload_n 1, 1) := by decide +kernel
theorem dX11_image_1 : decode cX11_image 1 = .ok (.ifCond .lt 8, 3) := by decide +kernel
theorem dX11_image_4 : decode cX11_image 4 = .ok (.iload_n 1, 1) := by decide +kernel
theorem dX11_image_5 : decode cX11_image 5 = .ok (.iconst 2, 1) := by decide +kernel
theorem dX11_image_6 : decode cX11_image 6 = .ok (.if_icmp .lt 5, 3) := by decide +kernel
theorem dX11_image_9 : decode cX11_image 9 = .ok (.iconst 0, 1) := by decide +kernel
theorem dX11_image_10 : decode cX11_image 10 = .ok (.ireturn, 1) := by decide +kernel
theorem dX11_image_11 : decode cX11_image 11 = .ok (.aload_n 0, 1) := by decide +kernel
theorem dX11_image_12 : decode cX11_image 12 = .ok (.getfield 96, 3) := by decide +kernel
theorem dX11_image_15 : decode cX11_image 15 = .ok (.iload_n 1, 1) := by decide +kernel
theorem dX11_image_16 : decode cX11_image 16 = .ok (.aaload, 1) := by decide +kernel
theorem dX11_image_17 : decode cX11_image 17 = .ok (.getfield 358, 3) := by decide +kernel
theorem dX11_image_20 : decode cX11_image 20 = .ok (.aload_n 0, 1) := by decide +kernel
theorem dX11_image_21 : decode cX11_image 21 = .ok (.getfield 19, 3) := by decide +kernel
theorem dX11_image_24 : decode cX11_image 24 = .ok (.invokevirtual 128, 3) := by decide +kernel
theorem dX11_image_27 : decode cX11_image 27 = .ok (.aload_n 0, 1) := by decide +kernel
theorem dX11_image_28 : decode cX11_image 28 = .ok (.getfield 96, 3) := by decide +kernel
theorem dX11_image_31 : decode cX11_image 31 = .ok (.iload_n 1, 1) := by decide +kernel
theorem dX11_image_32 : decode cX11_image 32 = .ok (.aaload, 1) := by decide +kernel
theorem dX11_image_33 : decode cX11_image 33 = .ok (.getfield 359, 3) := by decide +kernel
theorem dX11_image_36 : decode cX11_image 36 = .ok (.aload_n 0, 1) := by decide +kernel
theorem dX11_image_37 : decode cX11_image 37 = .ok (.getfield 40, 3) := by decide +kernel
theorem dX11_image_40 : decode cX11_image 40 = .ok (.invokevirtual 325, 3) := by decide +kernel
theorem dX11_image_43 : decode cX11_image 43 = .ok (.aload_n 0, 1) := by decide +kernel
theorem dX11_image_44 : decode cX11_image 44 = .ok (.getfield 96, 3) := by decide +kernel
theorem dX11_image_47 : decode cX11_image 47 = .ok (.iload_n 1, 1) := by decide +kernel
theorem dX11_image_48 : decode cX11_image 48 = .ok (.aaload, 1) := by decide +kernel
theorem dX11_image_49 : decode cX11_image 49 = .ok (.getfield 360, 3) := by decide +kernel
theorem dX11_image_52 : decode cX11_image 52 = .ok (.aload_n 0, 1) := by decide +kernel
theorem dX11_image_53 : decode cX11_image 53 = .ok (.getfield 64, 3) := by decide +kernel
theorem dX11_image_56 : decode cX11_image 56 = .ok (.invokevirtual 349, 3) := by decide +kernel
theorem dX11_image_59 : decode cX11_image 59 = .ok (.aload_n 0, 1) := by decide +kernel
theorem dX11_image_60 : decode cX11_image 60 = .ok (.getfield 96, 3) := by decide +kernel
theorem dX11_image_63 : decode cX11_image 63 = .ok (.iload_n 1, 1) := by decide +kernel
theorem dX11_image_64 : decode cX11_image 64 = .ok (.aaload, 1) := by decide +kernel
theorem dX11_image_65 : decode cX11_image 65 = .ok (.iconst 1, 1) := by decide +kernel
theorem dX11_image_66 : decode cX11_image 66 = .ok (.putfield 361, 3) := by decide +kernel
theorem dX11_image_69 : decode cX11_image 69 = .ok (.iconst 1, 1) := by decide +kernel
theorem dX11_image_70 : decode cX11_image 70 = .ok (.ireturn, 1) := by decide +kernel
theorem dX11_isLedger_0 : decode cX11_isLedger 0 = .ok (.iload_n 1, 1) := by decide +kernel
theorem dX11_isLedger_1 : decode cX11_isLedger 1 = .ok (.iconst 1, 1) := by decide +kernel
theorem dX11_isLedger_2 : decode cX11_isLedger 2 = .ok (.if_icmp .lt 14, 3) := by decide +kernel
theorem dX11_isLedger_5 : decode cX11_isLedger 5 = .ok (.iload_n 1, 1) := by decide +kernel
theorem dX11_isLedger_6 : decode cX11_isLedger 6 = .ok (.aload_n 0, 1) := by decide +kernel
theorem dX11_isLedger_7 : decode cX11_isLedger 7 = .ok (.getfield 40, 3) := by decide +kernel
theorem dX11_isLedger_10 : decode cX11_isLedger 10 = .ok (.getfield 203, 3) := by decide +kernel
theorem dX11_isLedger_13 : decode cX11_isLedger 13 = .ok (.if_icmp .le 5, 3) := by decide +kernel
theorem dX11_isLedger_16 : decode cX11_isLedger 16 = .ok (.iconst 0, 1) := by decide +kernel
theorem dX11_isLedger_17 : decode cX11_isLedger 17 = .ok (.ireturn, 1) := by decide +kernel
theorem dX11_isLedger_18 : decode cX11_isLedger 18 = .ok (.iconst 0, 1) := by decide +kernel
theorem dX11_isLedger_19 : decode cX11_isLedger 19 = .ok (.istore_n 2, 1) := by decide +kernel
theorem dX11_isLedger_20 : decode cX11_isLedger 20 = .ok (.iload_n 2, 1) := by decide +kernel
theorem dX11_isLedger_21 : decode cX11_isLedger 21 = .ok (.iload_n 1, 1) := by decide +kernel
theorem dX11_isLedger_22 : decode cX11_isLedger 22 = .ok (.if_icmp .ge 38, 3) := by decide +kernel
theorem dX11_isLedger_25 : decode cX11_isLedger 25 = .ok (.aload_n 0, 1) := by decide +kernel
theorem dX11_isLedger_26 : decode cX11_isLedger 26 = .ok (.getfield 10, 3) := by decide +kernel
theorem dX11_isLedger_29 : decode cX11_isLedger 29 = .ok (.iload_n 2, 1) := by decide +kernel
theorem dX11_isLedger_30 : decode cX11_isLedger 30 = .ok (.invokevirtual 371, 3) := by decide +kernel
theorem dX11_isLedger_33 : decode cX11_isLedger 33 = .ok (.istore_n 3, 1) := by decide +kernel
theorem dX11_isLedger_34 : decode cX11_isLedger 34 = .ok (.iload_n 3, 1) := by decide +kernel
theorem dX11_isLedger_35 : decode cX11_isLedger 35 = .ok (.sipush 255, 3) := by decide +kernel
theorem dX11_isLedger_38 : decode cX11_isLedger 38 = .ok (.if_icmp .eq 16, 3) := by decide +kernel
theorem dX11_isLedger_41 : decode cX11_isLedger 41 = .ok (.aload_n 0, 1) := by decide +kernel
theorem dX11_isLedger_42 : decode cX11_isLedger 42 = .ok (.getfield 19, 3) := by decide +kernel
theorem dX11_isLedger_45 : decode cX11_isLedger 45 = .ok (.iload_n 3, 1) := by decide +kernel
theorem dX11_isLedger_46 : decode cX11_isLedger 46 = .ok (.invokevirtual 143, 3) := by decide +kernel
theorem dX11_isLedger_49 : decode cX11_isLedger 49 = .ok (.ifCond .ne 5, 3) := by decide +kernel
theorem dX11_isLedger_52 : decode cX11_isLedger 52 = .ok (.iconst 0, 1) := by decide +kernel
theorem dX11_isLedger_53 : decode cX11_isLedger 53 = .ok (.ireturn, 1) := by decide +kernel
theorem dX11_isLedger_54 : decode cX11_isLedger 54 = .ok (.iinc 2 1, 3) := by decide +kernel
theorem dX11_isLedger_57 : decode cX11_isLedger 57 = .ok (.goto (-37), 3) := by decide +kernel
theorem dX11_isLedger_60 : decode cX11_isLedger 60 = .ok (.iconst 1, 1) := by decide +kernel
theorem dX11_isLedger_61 : decode cX11_isLedger 61 = .ok (.ireturn, 1) := by decide +kernel
theorem dX11_least_0 : decode cX11_least 0 = .ok (.aload_n 0, 1) := by decide +kernel
theorem dX11_least_1 : decode cX11_least 1 = .ok (.getfield 19, 3) := by decide +kernel
theorem dX11_least_4 : decode cX11_least 4 = .ok (.iload_n 1, 1) := by decide +kernel
theorem dX11_least_5 : decode cX11_least 5 = .ok (.invokevirtual 169, 3) := by decide +kernel
theorem dX11_least_8 : decode cX11_least 8 = .ok (.ifCond .eq 25, 3) := by decide +kernel
theorem dX11_least_11 : decode cX11_least 11 = .ok (.aload_n 0, 1) := by decide +kernel
theorem dX11_least_12 : decode cX11_least 12 = .ok (.getfield 40, 3) := by decide +kernel
theorem dX11_least_15 : decode cX11_least 15 = .ok (.iload_n 1, 1) := by decide +kernel
theorem dX11_least_16 : decode cX11_least 16 = .ok (.invokevirtual 307, 3) := by decide +kernel
theorem dX11_least_19 : decode cX11_least 19 = .ok (.ifCond .eq 14, 3) := by decide +kernel
theorem dX11_least_22 : decode cX11_least 22 = .ok (.aload_n 0, 1) := by decide +kernel
theorem dX11_least_23 : decode cX11_least 23 = .ok (.getfield 83, 3) := by decide +kernel
theorem dX11_least_26 : decode cX11_least 26 = .ok (.iload_n 1, 1) := by decide +kernel
theorem dX11_least_27 : decode cX11_least 27 = .ok (.invokevirtual 310, 3) := by decide +kernel
theorem dX11_least_30 : decode cX11_least 30 = .ok (.goto 4, 3) := by decide +kernel
theorem dX11_least_33 : decode cX11_least 33 = .ok (.iconst (-1), 1) := by decide +kernel
theorem dX11_least_34 : decode cX11_least 34 = .ok (.ireturn, 1) := by decide +kernel
theorem dX11_ledger_0 : decode cX11_ledger 0 = .ok (.aload_n 0, 1) := by decide +kernel
theorem dX11_ledger_1 : decode cX11_ledger 1 = .ok (.getfield 10, 3) := by decide +kernel
theorem dX11_ledger_4 : decode cX11_ledger 4 = .ok (.getfield 111, 3) := by decide +kernel
theorem dX11_ledger_7 : decode cX11_ledger 7 = .ok (.istore_n 1, 1) := by decide +kernel
theorem dX11_ledger_8 : decode cX11_ledger 8 = .ok (.aload_n 0, 1) := by decide +kernel
theorem dX11_ledger_9 : decode cX11_ledger 9 = .ok (.getfield 10, 3) := by decide +kernel
theorem dX11_ledger_12 : decode cX11_ledger 12 = .ok (.iconst 0, 1) := by decide +kernel
theorem dX11_ledger_13 : decode cX11_ledger 13 = .ok (.putfield 111, 3) := by decide +kernel
theorem dX11_ledger_16 : decode cX11_ledger 16 = .ok (.aload_n 0, 1) := by decide +kernel
theorem dX11_ledger_17 : decode cX11_ledger 17 = .ok (.iload_n 1, 1) := by decide +kernel
theorem dX11_ledger_18 : decode cX11_ledger 18 = .ok (.invokevirtual 293, 3) := by decide +kernel
theorem dX11_ledger_21 : decode cX11_ledger 21 = .ok (.ifCond .eq 11, 3) := by decide +kernel
theorem dX11_ledger_24 : decode cX11_ledger 24 = .ok (.aload_n 0, 1) := by decide +kernel
theorem dX11_ledger_25 : decode cX11_ledger 25 = .ok (.iload_n 1, 1) := by decide +kernel
theorem dX11_ledger_26 : decode cX11_ledger 26 = .ok (.invokevirtual 296, 3) := by decide +kernel
theorem dX11_ledger_29 : decode cX11_ledger 29 = .ok (.goto 4, 3) := by decide +kernel
theorem dX11_ledger_32 : decode cX11_ledger 32 = .ok (.iconst (-1), 1) := by decide +kernel
theorem dX11_ledger_33 : decode cX11_ledger 33 = .ok (.ireturn, 1) := by decide +kernel
theorem dX11_lot_0 : decode cX11_lot 0 = .ok (.aload_n 0, 1) := by decide +kernel
theorem dX11_lot_1 : decode cX11_lot 1 = .ok (.getfield 19, 3) := by decide +kernel
theorem dX11_lot_4 : decode cX11_lot 4 = .ok (.iload_n 1, 1) := by decide +kernel
theorem dX11_lot_5 : decode cX11_lot 5 = .ok (.invokevirtual 143, 3) := by decide +kernel
theorem dX11_lot_8 : decode cX11_lot 8 = .ok (.ifCond .ne 5, 3) := by decide +kernel
theorem dX11_lot_11 : decode cX11_lot 11 = .ok (.iconst (-1), 1) := by decide +kernel
theorem dX11_lot_12 : decode cX11_lot 12 = .ok (.ireturn, 1) := by decide +kernel
theorem dX11_lot_13 : decode cX11_lot 13 = .ok (.aload_n 0, 1) := by decide +kernel
theorem dX11_lot_14 : decode cX11_lot 14 = .ok (.getfield 40, 3) := by decide +kernel
theorem dX11_lot_17 : decode cX11_lot 17 = .ok (.iload_n 1, 1) := by decide +kernel
theorem dX11_lot_18 : decode cX11_lot 18 = .ok (.invokevirtual 160, 3) := by decide +kernel
theorem dX11_lot_21 : decode cX11_lot 21 = .ok (.ifCond .eq 16, 3) := by decide +kernel
theorem dX11_lot_24 : decode cX11_lot 24 = .ok (.aload_n 0, 1) := by decide +kernel
theorem dX11_lot_25 : decode cX11_lot 25 = .ok (.getfield 40, 3) := by decide +kernel
theorem dX11_lot_28 : decode cX11_lot 28 = .ok (.getfield 157, 3) := by decide +kernel
theorem dX11_lot_31 : decode cX11_lot 31 = .ok (.iload_n 1, 1) := by decide +kernel
theorem dX11_lot_32 : decode cX11_lot 32 = .ok (.iaload, 1) := by decide +kernel
theorem dX11_lot_33 : decode cX11_lot 33 = .ok (.iconst (-1), 1) := by decide +kernel
theorem dX11_lot_34 : decode cX11_lot 34 = .ok (.if_icmp .eq 6, 3) := by decide +kernel
theorem dX11_lot_37 : decode cX11_lot 37 = .ok (.bipush (-2), 2) := by decide +kernel
theorem dX11_lot_39 : decode cX11_lot 39 = .ok (.ireturn, 1) := by decide +kernel
theorem dX11_lot_40 : decode cX11_lot 40 = .ok (.aload_n 0, 1) := by decide +kernel
theorem dX11_lot_41 : decode cX11_lot 41 = .ok (.getfield 40, 3) := by decide +kernel
theorem dX11_lot_44 : decode cX11_lot 44 = .ok (.getfield 213, 3) := by decide +kernel
theorem dX11_lot_47 : decode cX11_lot 47 = .ok (.ifCond .ne 6, 3) := by decide +kernel
theorem dX11_lot_50 : decode cX11_lot 50 = .ok (.bipush (-3), 2) := by decide +kernel
theorem dX11_lot_52 : decode cX11_lot 52 = .ok (.ireturn, 1) := by decide +kernel
theorem dX11_lot_53 : decode cX11_lot 53 = .ok (.aload_n 0, 1) := by decide +kernel
theorem dX11_lot_54 : decode cX11_lot 54 = .ok (.getfield 50, 3) := by decide +kernel
theorem dX11_lot_57 : decode cX11_lot 57 = .ok (.aload_n 0, 1) := by decide +kernel
theorem dX11_lot_58 : decode cX11_lot 58 = .ok (.getfield 40, 3) := by decide +kernel
theorem dX11_lot_61 : decode cX11_lot 61 = .ok (.invokevirtual 237, 3) := by decide +kernel
theorem dX11_lot_64 : decode cX11_lot 64 = .ok (.aload_n 0, 1) := by decide +kernel
theorem dX11_lot_65 : decode cX11_lot 65 = .ok (.getfield 90, 3) := by decide +kernel
theorem dX11_lot_68 : decode cX11_lot 68 = .ok (.iload_n 2, 1) := by decide +kernel
theorem dX11_lot_69 : decode cX11_lot 69 = .ok (.putfield 241, 3) := by decide +kernel
theorem dX11_lot_72 : decode cX11_lot 72 = .ok (.aload_n 0, 1) := by decide +kernel
theorem dX11_lot_73 : decode cX11_lot 73 = .ok (.getfield 40, 3) := by decide +kernel
theorem dX11_lot_76 : decode cX11_lot 76 = .ok (.iload_n 1, 1) := by decide +kernel
theorem dX11_lot_77 : decode cX11_lot 77 = .ok (.aload_n 0, 1) := by decide +kernel
theorem dX11_lot_78 : decode cX11_lot 78 = .ok (.getfield 90, 3) := by decide +kernel
theorem dX11_lot_81 : decode cX11_lot 81 = .ok (.invokevirtual 244, 3) := by decide +kernel
theorem dX11_lot_84 : decode cX11_lot 84 = .ok (.ireturn, 1) := by decide +kernel
theorem dX11_mondays_0 : decode cX11_mondays 0 = .ok (.iload_n 1, 1) := by decide +kernel
theorem dX11_mondays_1 : decode cX11_mondays 1 = .ok (.iconst 1, 1) := by decide +kernel
theorem dX11_mondays_2 : decode cX11_mondays 2 = .ok (.if_icmp .lt 9, 3) := by decide +kernel
theorem dX11_mondays_5 : decode cX11_mondays 5 = .ok (.iload_n 1, 1) := by decide +kernel
theorem dX11_mondays_6 : decode cX11_mondays 6 = .ok (.bipush 60, 2) := by decide +kernel
theorem dX11_mondays_8 : decode cX11_mondays 8 = .ok (.if_icmp .le 5, 3) := by decide +kernel
theorem dX11_mondays_11 : decode cX11_mondays 11 = .ok (.iconst (-1), 1) := by decide +kernel
theorem dX11_mondays_12 : decode cX11_mondays 12 = .ok (.ireturn, 1) := by decide +kernel
theorem dX11_mondays_13 : decode cX11_mondays 13 = .ok (.iload_n 1, 1) := by decide +kernel
theorem dX11_mondays_14 : decode cX11_mondays 14 = .ok (.sipush 200, 3) := by decide +kernel
theorem dX11_mondays_17 : decode cX11_mondays 17 = .ok (.aload_n 0, 1) := by decide +kernel
theorem dX11_mondays_18 : decode cX11_mondays 18 = .ok (.getfield 40, 3) := by decide +kernel
theorem dX11_mondays_21 : decode cX11_mondays 21 = .ok (.getfield 203, 3) := by decide +kernel
theorem dX11_mondays_24 : decode cX11_mondays 24 = .ok (.isub, 1) := by decide +kernel
theorem dX11_mondays_25 : decode cX11_mondays 25 = .ok (.invokestatic 248, 3) := by decide +kernel
theorem dX11_mondays_28 : decode cX11_mondays 28 = .ok (.istore_n 2, 1) := by decide +kernel
theorem dX11_mondays_29 : decode cX11_mondays 29 = .ok (.iload_n 2, 1) := by decide +kernel
theorem dX11_mondays_30 : decode cX11_mondays 30 = .ok (.ifCond .le 22, 3) := by decide +kernel
theorem dX11_mondays_33 : decode cX11_mondays 33 = .ok (.aload_n 0, 1) := by decide +kernel
theorem dX11_mondays_34 : decode cX11_mondays 34 = .ok (.getfield 50, 3) := by decide +kernel
theorem dX11_mondays_37 : decode cX11_mondays 37 = .ok (.aload_n 0, 1) := by decide +kernel
theorem dX11_mondays_38 : decode cX11_mondays 38 = .ok (.getfield 40, 3) := by decide +kernel
theorem dX11_mondays_41 : decode cX11_mondays 41 = .ok (.invokevirtual 237, 3) := by decide +kernel
theorem dX11_mondays_44 : decode cX11_mondays 44 = .ok (.aload_n 0, 1) := by decide +kernel
theorem dX11_mondays_45 : decode cX11_mondays 45 = .ok (.getfield 40, 3) := by decide +kernel
theorem dX11_mondays_48 : decode cX11_mondays 48 = .ok (.iload_n 2, 1) := by decide +kernel
theorem dX11_mondays_49 : decode cX11_mondays 49 = .ok (.invokevirtual 253, 3) := by decide +kernel
theorem dX11_mondays_52 : decode cX11_mondays 52 = .ok (.iload_n 2, 1) := by decide +kernel
theorem dX11_mondays_53 : decode cX11_mondays 53 = .ok (.ireturn, 1) := by decide +kernel
theorem dX11_must_0 : decode cX11_must 0 = .ok (.iload_n 1, 1) := by decide +kernel
theorem dX11_must_1 : decode cX11_must 1 = .ok (.ifCond .lt 10, 3) := by decide +kernel
theorem dX11_must_4 : decode cX11_must 4 = .ok (.iload_n 1, 1) := by decide +kernel
theorem dX11_must_5 : decode cX11_must 5 = .ok (.sipush 200, 3) := by decide +kernel
theorem dX11_must_8 : decode cX11_must 8 = .ok (.if_icmp .lt 5, 3) := by decide +kernel
theorem dX11_must_11 : decode cX11_must 11 = .ok (.iconst (-1), 1) := by decide +kernel
theorem dX11_must_12 : decode cX11_must 12 = .ok (.ireturn, 1) := by decide +kernel
theorem dX11_must_13 : decode cX11_must 13 = .ok (.aload_n 0, 1) := by decide +kernel
theorem dX11_must_14 : decode cX11_must 14 = .ok (.getfield 40, 3) := by decide +kernel
theorem dX11_must_17 : decode cX11_must 17 = .ok (.invokevirtual 209, 3) := by decide +kernel
theorem dX11_must_20 : decode cX11_must 20 = .ok (.istore_n 2, 1) := by decide +kernel
theorem dX11_must_21 : decode cX11_must 21 = .ok (.iconst 0, 1) := by decide +kernel
theorem dX11_must_22 : decode cX11_must 22 = .ok (.istore_n 3, 1) := by decide +kernel
theorem dX11_must_23 : decode cX11_must 23 = .ok (.iload_n 3, 1) := by decide +kernel
theorem dX11_must_24 : decode cX11_must 24 = .ok (.aload_n 0, 1) := by decide +kernel
theorem dX11_must_25 : decode cX11_must 25 = .ok (.getfield 19, 3) := by decide +kernel
theorem dX11_must_28 : decode cX11_must 28 = .ok (.getfield 216, 3) := by decide +kernel
theorem dX11_must_31 : decode cX11_must 31 = .ok (.if_icmp .ge 62, 3) := by decide +kernel
theorem dX11_must_34 : decode cX11_must 34 = .ok (.aload_n 0, 1) := by decide +kernel
theorem dX11_must_35 : decode cX11_must 35 = .ok (.getfield 40, 3) := by decide +kernel
theorem dX11_must_38 : decode cX11_must 38 = .ok (.getfield 175, 3) := by decide +kernel
theorem dX11_must_41 : decode cX11_must 41 = .ok (.iload_n 3, 1) := by decide +kernel
theorem dX11_must_42 : decode cX11_must 42 = .ok (.iaload, 1) := by decide +kernel
theorem dX11_must_43 : decode cX11_must 43 = .ok (.iconst (-1), 1) := by decide +kernel
theorem dX11_must_44 : decode cX11_must 44 = .ok (.if_icmp .eq 43, 3) := by decide +kernel
theorem dX11_must_47 : decode cX11_must 47 = .ok (.aload_n 0, 1) := by decide +kernel
theorem dX11_must_48 : decode cX11_must 48 = .ok (.getfield 19, 3) := by decide +kernel
theorem dX11_must_51 : decode cX11_must 51 = .ok (.getfield 290, 3) := by decide +kernel
theorem dX11_must_54 : decode cX11_must 54 = .ok (.iload_n 3, 1) := by decide +kernel
theorem dX11_must_55 : decode cX11_must 55 = .ok (.iaload, 1) := by decide +kernel
theorem dX11_must_56 : decode cX11_must 56 = .ok (.iconst (-1), 1) := by decide +kernel
theorem dX11_must_57 : decode cX11_must 57 = .ok (.if_icmp .eq 30, 3) := by decide +kernel
theorem dX11_must_60 : decode cX11_must 60 = .ok (.aload_n 0, 1) := by decide +kernel
theorem dX11_must_61 : decode cX11_must 61 = .ok (.getfield 19, 3) := by decide +kernel
theorem dX11_must_64 : decode cX11_must 64 = .ok (.getfield 290, 3) := by decide +kernel
theorem dX11_must_67 : decode cX11_must 67 = .ok (.iload_n 3, 1) := by decide +kernel
theorem dX11_must_68 : decode cX11_must 68 = .ok (.iaload, 1) := by decide +kernel
theorem dX11_must_69 : decode cX11_must 69 = .ok (.iload_n 1, 1) := by decide +kernel
theorem dX11_must_70 : decode cX11_must 70 = .ok (.if_icmp .gt 17, 3) := by decide +kernel
theorem dX11_must_73 : decode cX11_must 73 = .ok (.iload_n 2, 1) := by decide +kernel
theorem dX11_must_74 : decode cX11_must 74 = .ok (.iconst 1, 1) := by decide +kernel
theorem dX11_must_75 : decode cX11_must 75 = .ok (.aload_n 0, 1) := by decide +kernel
theorem dX11_must_76 : decode cX11_must 76 = .ok (.getfield 40, 3) := by decide +kernel
theorem dX11_must_79 : decode cX11_must 79 = .ok (.getfield 175, 3) := by decide +kernel
theorem dX11_must_82 : decode cX11_must 82 = .ok (.iload_n 3, 1) := by decide +kernel
theorem dX11_must_83 : decode cX11_must 83 = .ok (.iaload, 1) := by decide +kernel
theorem dX11_must_84 : decode cX11_must 84 = .ok (.ishl, 1) := by decide +kernel
theorem dX11_must_85 : decode cX11_must 85 = .ok (.ior, 1) := by decide +kernel
theorem dX11_must_86 : decode cX11_must 86 = .ok (.istore_n 2, 1) := by decide +kernel
theorem dX11_must_87 : decode cX11_must 87 = .ok (.iinc 3 1, 3) := by decide +kernel
theorem dX11_must_90 : decode cX11_must 90 = .ok (.goto (-67), 3) := by decide +kernel
theorem dX11_must_93 : decode cX11_must 93 = .ok (.iload_n 2, 1) := by decide +kernel
theorem dX11_must_94 : decode cX11_must 94 = .ok (.ireturn, 1) := by decide +kernel
theorem dX11_name_0 : decode cX11_name 0 = .ok (.aload_n 0, 1) := by decide +kernel
theorem dX11_name_1 : decode cX11_name 1 = .ok (.getfield 19, 3) := by decide +kernel
theorem dX11_name_4 : decode cX11_name 4 = .ok (.iload_n 1, 1) := by decide +kernel
theorem dX11_name_5 : decode cX11_name 5 = .ok (.invokevirtual 143, 3) := by decide +kernel
theorem dX11_name_8 : decode cX11_name 8 = .ok (.ifCond .ne 5, 3) := by decide +kernel
theorem dX11_name_11 : decode cX11_name 11 = .ok (.iconst (-1), 1) := by decide +kernel
theorem dX11_name_12 : decode cX11_name 12 = .ok (.ireturn, 1) := by decide +kernel
theorem dX11_name_13 : decode cX11_name 13 = .ok (.iload_n 2, 1) := by decide +kernel
theorem dX11_name_14 : decode cX11_name 14 = .ok (.tableswitch 117 0 6 #[42, 52, 61, 71, 81, 98, 107], 42) := by decide +kernel
theorem dX11_name_56 : decode cX11_name 56 = .ok (.aload_n 0, 1) := by decide +kernel
theorem dX11_name_57 : decode cX11_name 57 = .ok (.getfield 19, 3) := by decide +kernel
theorem dX11_name_60 : decode cX11_name 60 = .ok (.getfield 146, 3) := by decide +kernel
theorem dX11_name_63 : decode cX11_name 63 = .ok (.iload_n 1, 1) := by decide +kernel
theorem dX11_name_64 : decode cX11_name 64 = .ok (.iaload, 1) := by decide +kernel
theorem dX11_name_65 : decode cX11_name 65 = .ok (.ireturn, 1) := by decide +kernel
theorem dX11_name_66 : decode cX11_name 66 = .ok (.aload_n 0, 1) := by decide +kernel
theorem dX11_name_67 : decode cX11_name 67 = .ok (.getfield 40, 3) := by decide +kernel
theorem dX11_name_70 : decode cX11_name 70 = .ok (.iload_n 1, 1) := by decide +kernel
theorem dX11_name_71 : decode cX11_name 71 = .ok (.invokevirtual 150, 3) := by decide +kernel
theorem dX11_name_74 : decode cX11_name 74 = .ok (.ireturn, 1) := by decide +kernel
theorem dX11_name_75 : decode cX11_name 75 = .ok (.aload_n 0, 1) := by decide +kernel
theorem dX11_name_76 : decode cX11_name 76 = .ok (.getfield 40, 3) := by decide +kernel
theorem dX11_name_79 : decode cX11_name 79 = .ok (.getfield 154, 3) := by decide +kernel
theorem dX11_name_82 : decode cX11_name 82 = .ok (.iload_n 1, 1) := by decide +kernel
theorem dX11_name_83 : decode cX11_name 83 = .ok (.iaload, 1) := by decide +kernel
theorem dX11_name_84 : decode cX11_name 84 = .ok (.ireturn, 1) := by decide +kernel
theorem dX11_name_85 : decode cX11_name 85 = .ok (.aload_n 0, 1) := by decide +kernel
theorem dX11_name_86 : decode cX11_name 86 = .ok (.getfield 40, 3) := by decide +kernel
theorem dX11_name_89 : decode cX11_name 89 = .ok (.getfield 157, 3) := by decide +kernel
theorem dX11_name_92 : decode cX11_name 92 = .ok (.iload_n 1, 1) := by decide +kernel
theorem dX11_name_93 : decode cX11_name 93 = .ok (.iaload, 1) := by decide +kernel
theorem dX11_name_94 : decode cX11_name 94 = .ok (.ireturn, 1) := by decide +kernel
theorem dX11_name_95 : decode cX11_name 95 = .ok (.aload_n 0, 1) := by decide +kernel
theorem dX11_name_96 : decode cX11_name 96 = .ok (.getfield 40, 3) := by decide +kernel
theorem dX11_name_99 : decode cX11_name 99 = .ok (.iload_n 1, 1) := by decide +kernel
theorem dX11_name_100 : decode cX11_name 100 = .ok (.invokevirtual 160, 3) := by decide +kernel
theorem dX11_name_103 : decode cX11_name 103 = .ok (.ifCond .eq 7, 3) := by decide +kernel
theorem dX11_name_106 : decode cX11_name 106 = .ok (.iconst 1, 1) := by decide +kernel
theorem dX11_name_107 : decode cX11_name 107 = .ok (.goto 4, 3) := by decide +kernel
theorem dX11_name_110 : decode cX11_name 110 = .ok (.iconst 0, 1) := by decide +kernel
theorem dX11_name_111 : decode cX11_name 111 = .ok (.ireturn, 1) := by decide +kernel
theorem dX11_name_112 : decode cX11_name 112 = .ok (.aload_n 0, 1) := by decide +kernel
theorem dX11_name_113 : decode cX11_name 113 = .ok (.getfield 40, 3) := by decide +kernel
theorem dX11_name_116 : decode cX11_name 116 = .ok (.iload_n 1, 1) := by decide +kernel
theorem dX11_name_117 : decode cX11_name 117 = .ok (.invokevirtual 163, 3) := by decide +kernel
theorem dX11_name_120 : decode cX11_name 120 = .ok (.ireturn, 1) := by decide +kernel
theorem dX11_name_121 : decode cX11_name 121 = .ok (.aload_n 0, 1) := by decide +kernel
theorem dX11_name_122 : decode cX11_name 122 = .ok (.getfield 19, 3) := by decide +kernel
theorem dX11_name_125 : decode cX11_name 125 = .ok (.getfield 166, 3) := by decide +kernel
theorem dX11_name_128 : decode cX11_name 128 = .ok (.iload_n 1, 1) := by decide +kernel
theorem dX11_name_129 : decode cX11_name 129 = .ok (.iaload, 1) := by decide +kernel
theorem dX11_name_130 : decode cX11_name 130 = .ok (.ireturn, 1) := by decide +kernel
theorem dX11_name_131 : decode cX11_name 131 = .ok (.iconst (-1), 1) := by decide +kernel
theorem dX11_name_132 : decode cX11_name 132 = .ok (.ireturn, 1) := by decide +kernel
theorem dX11_now_0 : decode cX11_now 0 = .ok (.iload_n 1, 1) := by decide +kernel
theorem dX11_now_1 : decode cX11_now 1 = .ok (.tableswitch 119 0 6 #[43, 51, 59, 67, 75, 93, 111], 43) := by decide +kernel
theorem dX11_now_44 : decode cX11_now 44 = .ok (.aload_n 0, 1) := by decide +kernel
theorem dX11_now_45 : decode cX11_now 45 = .ok (.getfield 40, 3) := by decide +kernel
theorem dX11_now_48 : decode cX11_now 48 = .ok (.getfield 203, 3) := by decide +kernel
theorem dX11_now_51 : decode cX11_now 51 = .ok (.ireturn, 1) := by decide +kernel
theorem dX11_now_52 : decode cX11_now 52 = .ok (.aload_n 0, 1) := by decide +kernel
theorem dX11_now_53 : decode cX11_now 53 = .ok (.getfield 40, 3) := by decide +kernel
theorem dX11_now_56 : decode cX11_now 56 = .ok (.getfield 206, 3) := by decide +kernel
theorem dX11_now_59 : decode cX11_now 59 = .ok (.ireturn, 1) := by decide +kernel
theorem dX11_now_60 : decode cX11_now 60 = .ok (.aload_n 0, 1) := by decide +kernel
theorem dX11_now_61 : decode cX11_now 61 = .ok (.getfield 40, 3) := by decide +kernel
theorem dX11_now_64 : decode cX11_now 64 = .ok (.invokevirtual 209, 3) := by decide +kernel
theorem dX11_now_67 : decode cX11_now 67 = .ok (.ireturn, 1) := by decide +kernel
theorem dX11_now_68 : decode cX11_now 68 = .ok (.aload_n 0, 1) := by decide +kernel
theorem dX11_now_69 : decode cX11_now 69 = .ok (.getfield 40, 3) := by decide +kernel
theorem dX11_now_72 : decode cX11_now 72 = .ok (.getfield 213, 3) := by decide +kernel
theorem dX11_now_75 : decode cX11_now 75 = .ok (.ireturn, 1) := by decide +kernel
theorem dX11_now_76 : decode cX11_now 76 = .ok (.aload_n 0, 1) := by decide +kernel
theorem dX11_now_77 : decode cX11_now 77 = .ok (.getfield 40, 3) := by decide +kernel
theorem dX11_now_80 : decode cX11_now 80 = .ok (.getfield 178, 3) := by decide +kernel
theorem dX11_now_83 : decode cX11_now 83 = .ok (.aload_n 0, 1) := by decide +kernel
theorem dX11_now_84 : decode cX11_now 84 = .ok (.getfield 19, 3) := by decide +kernel
theorem dX11_now_87 : decode cX11_now 87 = .ok (.getfield 216, 3) := by decide +kernel
theorem dX11_now_90 : decode cX11_now 90 = .ok (.invokestatic 219, 3) := by decide +kernel
theorem dX11_now_93 : decode cX11_now 93 = .ok (.ireturn, 1) := by decide +kernel
theorem dX11_now_94 : decode cX11_now 94 = .ok (.aload_n 0, 1) := by decide +kernel
theorem dX11_now_95 : decode cX11_now 95 = .ok (.getfield 40, 3) := by decide +kernel
theorem dX11_now_98 : decode cX11_now 98 = .ok (.getfield 154, 3) := by decide +kernel
theorem dX11_now_101 : decode cX11_now 101 = .ok (.aload_n 0, 1) := by decide +kernel
theorem dX11_now_102 : decode cX11_now 102 = .ok (.getfield 19, 3) := by decide +kernel
theorem dX11_now_105 : decode cX11_now 105 = .ok (.getfield 223, 3) := by decide +kernel
theorem dX11_now_108 : decode cX11_now 108 = .ok (.invokestatic 219, 3) := by decide +kernel
theorem dX11_now_111 : decode cX11_now 111 = .ok (.ireturn, 1) := by decide +kernel
theorem dX11_now_112 : decode cX11_now 112 = .ok (.aload_n 0, 1) := by decide +kernel
theorem dX11_now_113 : decode cX11_now 113 = .ok (.getfield 40, 3) := by decide +kernel
theorem dX11_now_116 : decode cX11_now 116 = .ok (.getfield 226, 3) := by decide +kernel
theorem dX11_now_119 : decode cX11_now 119 = .ok (.ireturn, 1) := by decide +kernel
theorem dX11_now_120 : decode cX11_now 120 = .ok (.iconst (-1), 1) := by decide +kernel
theorem dX11_now_121 : decode cX11_now 121 = .ok (.ireturn, 1) := by decide +kernel
theorem dX11_odds_0 : decode cX11_odds 0 = .ok (.aload_n 0, 1) := by decide +kernel
theorem dX11_odds_1 : decode cX11_odds 1 = .ok (.getfield 19, 3) := by decide +kernel
theorem dX11_odds_4 : decode cX11_odds 4 = .ok (.iload_n 1, 1) := by decide +kernel
theorem dX11_odds_5 : decode cX11_odds 5 = .ok (.invokevirtual 169, 3) := by decide +kernel
theorem dX11_odds_8 : decode cX11_odds 8 = .ok (.ifCond .eq 24, 3) := by decide +kernel
theorem dX11_odds_11 : decode cX11_odds 11 = .ok (.aload_n 0, 1) := by decide +kernel
theorem dX11_odds_12 : decode cX11_odds 12 = .ok (.getfield 19, 3) := by decide +kernel
theorem dX11_odds_15 : decode cX11_odds 15 = .ok (.getfield 223, 3) := by decide +kernel
theorem dX11_odds_18 : decode cX11_odds 18 = .ok (.ifCond .eq 14, 3) := by decide +kernel
theorem dX11_odds_21 : decode cX11_odds 21 = .ok (.iload_n 2, 1) := by decide +kernel
theorem dX11_odds_22 : decode cX11_odds 22 = .ok (.iconst 1, 1) := by decide +kernel
theorem dX11_odds_23 : decode cX11_odds 23 = .ok (.if_icmp .lt 9, 3) := by decide +kernel
theorem dX11_odds_26 : decode cX11_odds 26 = .ok (.iload_n 2, 1) := by decide +kernel
theorem dX11_odds_27 : decode cX11_odds 27 = .ok (.bipush 30, 2) := by decide +kernel
theorem dX11_odds_29 : decode cX11_odds 29 = .ok (.if_icmp .le 5, 3) := by decide +kernel
theorem dX11_odds_32 : decode cX11_odds 32 = .ok (.iconst (-1), 1) := by decide +kernel
theorem dX11_odds_33 : decode cX11_odds 33 = .ok (.ireturn, 1) := by decide +kernel
theorem dX11_odds_34 : decode cX11_odds 34 = .ok (.iconst 0, 1) := by decide +kernel
theorem dX11_odds_35 : decode cX11_odds 35 = .ok (.istore 4, 2) := by decide +kernel
theorem dX11_odds_37 : decode cX11_odds 37 = .ok (.iconst 0, 1) := by decide +kernel
theorem dX11_odds_38 : decode cX11_odds 38 = .ok (.istore 5, 2) := by decide +kernel
theorem dX11_odds_40 : decode cX11_odds 40 = .ok (.iload 5, 2) := by decide +kernel
theorem dX11_odds_42 : decode cX11_odds 42 = .ok (.iload_n 2, 1) := by decide +kernel
theorem dX11_odds_43 : decode cX11_odds 43 = .ok (.if_icmp .ge 61, 3) := by decide +kernel
theorem dX11_odds_46 : decode cX11_odds 46 = .ok (.aload_n 0, 1) := by decide +kernel
theorem dX11_odds_47 : decode cX11_odds 47 = .ok (.getfield 44, 3) := by decide +kernel
theorem dX11_odds_50 : decode cX11_odds 50 = .ok (.aload_n 0, 1) := by decide +kernel
theorem dX11_odds_51 : decode cX11_odds 51 = .ok (.getfield 40, 3) := by decide +kernel
theorem dX11_odds_54 : decode cX11_odds 54 = .ok (.invokevirtual 325, 3) := by decide +kernel
theorem dX11_odds_57 : decode cX11_odds 57 = .ok (.aload_n 0, 1) := by decide +kernel
theorem dX11_odds_58 : decode cX11_odds 58 = .ok (.getfield 90, 3) := by decide +kernel
theorem dX11_odds_61 : decode cX11_odds 61 = .ok (.iload_n 3, 1) := by decide +kernel
theorem dX11_odds_62 : decode cX11_odds 62 = .ok (.iload 5, 2) := by decide +kernel
theorem dX11_odds_64 : decode cX11_odds 64 = .ok (.iadd, 1) := by decide +kernel
theorem dX11_odds_65 : decode cX11_odds 65 = .ok (.putfield 241, 3) := by decide +kernel
theorem dX11_odds_68 : decode cX11_odds 68 = .ok (.aload_n 0, 1) := by decide +kernel
theorem dX11_odds_69 : decode cX11_odds 69 = .ok (.getfield 44, 3) := by decide +kernel
theorem dX11_odds_72 : decode cX11_odds 72 = .ok (.bipush 20, 2) := by decide +kernel
theorem dX11_odds_74 : decode cX11_odds 74 = .ok (.aload_n 0, 1) := by decide +kernel
theorem dX11_odds_75 : decode cX11_odds 75 = .ok (.getfield 90, 3) := by decide +kernel
theorem dX11_odds_78 : decode cX11_odds 78 = .ok (.invokevirtual 322, 3) := by decide +kernel
theorem dX11_odds_81 : decode cX11_odds 81 = .ok (.pop, 1) := by decide +kernel
theorem dX11_odds_82 : decode cX11_odds 82 = .ok (.aload_n 0, 1) := by decide +kernel
theorem dX11_odds_83 : decode cX11_odds 83 = .ok (.getfield 44, 3) := by decide +kernel
theorem dX11_odds_86 : decode cX11_odds 86 = .ok (.getfield 175, 3) := by decide +kernel
theorem dX11_odds_89 : decode cX11_odds 89 = .ok (.iload_n 1, 1) := by decide +kernel
theorem dX11_odds_90 : decode cX11_odds 90 = .ok (.iaload, 1) := by decide +kernel
theorem dX11_odds_91 : decode cX11_odds 91 = .ok (.iconst (-1), 1) := by decide +kernel
theorem dX11_odds_92 : decode cX11_odds 92 = .ok (.if_icmp .eq 6, 3) := by decide +kernel
theorem dX11_odds_95 : decode cX11_odds 95 = .ok (.iinc 4 1, 3) := by decide +kernel
theorem dX11_odds_98 : decode cX11_odds 98 = .ok (.iinc 5 1, 3) := by decide +kernel
theorem dX11_odds_101 : decode cX11_odds 101 = .ok (.goto (-61), 3) := by decide +kernel
theorem dX11_odds_104 : decode cX11_odds 104 = .ok (.iload 4, 2) := by decide +kernel
theorem dX11_odds_106 : decode cX11_odds 106 = .ok (.ireturn, 1) := by decide +kernel
theorem dX11_partner_0 : decode cX11_partner 0 = .ok (.aload_n 0, 1) := by decide +kernel
theorem dX11_partner_1 : decode cX11_partner 1 = .ok (.getfield 19, 3) := by decide +kernel
theorem dX11_partner_4 : decode cX11_partner 4 = .ok (.iload_n 1, 1) := by decide +kernel
theorem dX11_partner_5 : decode cX11_partner 5 = .ok (.invokevirtual 169, 3) := by decide +kernel
theorem dX11_partner_8 : decode cX11_partner 8 = .ok (.ifCond .eq 14, 3) := by decide +kernel
theorem dX11_partner_11 : decode cX11_partner 11 = .ok (.aload_n 0, 1) := by decide +kernel
theorem dX11_partner_12 : decode cX11_partner 12 = .ok (.getfield 76, 3) := by decide +kernel
theorem dX11_partner_15 : decode cX11_partner 15 = .ok (.iload_n 1, 1) := by decide +kernel
theorem dX11_partner_16 : decode cX11_partner 16 = .ok (.invokevirtual 281, 3) := by decide +kernel
theorem dX11_partner_19 : decode cX11_partner 19 = .ok (.goto 4, 3) := by decide +kernel
theorem dX11_partner_22 : decode cX11_partner 22 = .ok (.iconst (-1), 1) := by decide +kernel
theorem dX11_partner_23 : decode cX11_partner 23 = .ok (.ireturn, 1) := by decide +kernel
theorem dX11_party_0 : decode cX11_party 0 = .ok (.iconst (-1), 1) := by decide +kernel
theorem dX11_party_1 : decode cX11_party 1 = .ok (.istore_n 1, 1) := by decide +kernel
