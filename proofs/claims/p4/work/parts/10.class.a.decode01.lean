theorem dJ0_charAt_5068e_0 : decode cJ0_charAt_5068e 0 = .ok (.aload_n 0, 1) := by decide +kernel
theorem dJ0_charAt_5068e_1 : decode cJ0_charAt_5068e 1 = .ok (.invokevirtual 492, 3) := by decide +kernel
theorem dJ0_charAt_5068e_4 : decode cJ0_charAt_5068e 4 = .ok (.ifCond .eq 12, 3) := by decide +kernel
theorem dJ0_charAt_5068e_7 : decode cJ0_charAt_5068e 7 = .ok (.aload_n 0, 1) := by decide +kernel
theorem dJ0_charAt_5068e_8 : decode cJ0_charAt_5068e 8 = .ok (.getfield 9, 3) := by decide +kernel
theorem dJ0_charAt_5068e_11 : decode cJ0_charAt_5068e 11 = .ok (.iload_n 1, 1) := by decide +kernel
theorem dJ0_charAt_5068e_12 : decode cJ0_charAt_5068e 12 = .ok (.invokestatic 495, 3) := by decide +kernel
theorem dJ0_charAt_5068e_15 : decode cJ0_charAt_5068e 15 = .ok (.ireturn, 1) := by decide +kernel
theorem dJ0_checkIndex_df160_0 : decode cJ0_checkIndex_df160 0 = .ok (.iload_n 0, 1) := by decide +kernel
theorem dJ0_checkIndex_df160_1 : decode cJ0_checkIndex_df160 1 = .ok (.iload_n 1, 1) := by decide +kernel
theorem dJ0_checkIndex_df160_2 : decode cJ0_checkIndex_df160 2 = .ok (.getstatic 1053, 3) := by decide +kernel
theorem dJ0_checkIndex_df160_5 : decode cJ0_checkIndex_df160 5 = .ok (.invokestatic 1059, 3) := by decide +kernel
theorem dJ0_checkIndex_df160_8 : decode cJ0_checkIndex_df160 8 = .ok (.pop, 1) := by decide +kernel
theorem dJ0_checkIndex_df160_9 : decode cJ0_checkIndex_df160 9 = .ok (.return_, 1) := by decide +kernel
theorem dJ0_coder_7d493_0 : decode cJ0_coder_7d493 0 = .ok (.getstatic 38, 3) := by decide +kernel
theorem dJ0_coder_7d493_3 : decode cJ0_coder_7d493 3 = .ok (.ifCond .eq 10, 3) := by decide +kernel
theorem dJ0_coder_7d493_6 : decode cJ0_coder_7d493 6 = .ok (.aload_n 0, 1) := by decide +kernel
theorem dJ0_coder_7d493_7 : decode cJ0_coder_7d493 7 = .ok (.getfield 15, 3) := by decide +kernel
theorem dJ0_coder_7d493_10 : decode cJ0_coder_7d493 10 = .ok (.goto 4, 3) := by decide +kernel
theorem dJ0_coder_7d493_14 : decode cJ0_coder_7d493 14 = .ok (.ireturn, 1) := by decide +kernel
theorem dJ0_isLatin1_aae02_0 : decode cJ0_isLatin1_aae02 0 = .ok (.getstatic 38, 3) := by decide +kernel
theorem dJ0_isLatin1_aae02_3 : decode cJ0_isLatin1_aae02 3 = .ok (.ifCond .eq 14, 3) := by decide +kernel
theorem dJ0_isLatin1_aae02_6 : decode cJ0_isLatin1_aae02 6 = .ok (.aload_n 0, 1) := by decide +kernel
theorem dJ0_isLatin1_aae02_7 : decode cJ0_isLatin1_aae02 7 = .ok (.getfield 15, 3) := by decide +kernel
theorem dJ0_isLatin1_aae02_10 : decode cJ0_isLatin1_aae02 10 = .ok (.ifCond .ne 7, 3) := by decide +kernel
theorem dJ0_isLatin1_aae02_13 : decode cJ0_isLatin1_aae02 13 = .ok (.iconst 1, 1) := by decide +kernel
theorem dJ0_isLatin1_aae02_14 : decode cJ0_isLatin1_aae02 14 = .ok (.goto 4, 3) := by decide +kernel
theorem dJ0_isLatin1_aae02_18 : decode cJ0_isLatin1_aae02 18 = .ok (.ireturn, 1) := by decide +kernel
theorem dJ0_length_8abf5_0 : decode cJ0_length_8abf5 0 = .ok (.aload_n 0, 1) := by decide +kernel
theorem dJ0_length_8abf5_1 : decode cJ0_length_8abf5 1 = .ok (.getfield 9, 3) := by decide +kernel
theorem dJ0_length_8abf5_4 : decode cJ0_length_8abf5 4 = .ok (.arraylength, 1) := by decide +kernel
theorem dJ0_length_8abf5_5 : decode cJ0_length_8abf5 5 = .ok (.aload_n 0, 1) := by decide +kernel
theorem dJ0_length_8abf5_6 : decode cJ0_length_8abf5 6 = .ok (.invokevirtual 335, 3) := by decide +kernel
theorem dJ0_length_8abf5_9 : decode cJ0_length_8abf5 9 = .ok (.ishr, 1) := by decide +kernel
theorem dJ0_length_8abf5_10 : decode cJ0_length_8abf5 10 = .ok (.ireturn, 1) := by decide +kernel
theorem dJ1_charAt_3b067_0 : decode cJ1_charAt_3b067 0 = .ok (.iload_n 1, 1) := by decide +kernel
theorem dJ1_charAt_3b067_1 : decode cJ1_charAt_3b067 1 = .ok (.aload_n 0, 1) := by decide +kernel
theorem dJ1_charAt_3b067_2 : decode cJ1_charAt_3b067 2 = .ok (.arraylength, 1) := by decide +kernel
theorem dJ1_charAt_3b067_3 : decode cJ1_charAt_3b067 3 = .ok (.invokestatic 9, 3) := by decide +kernel
theorem dJ1_charAt_3b067_6 : decode cJ1_charAt_3b067 6 = .ok (.aload_n 0, 1) := by decide +kernel
theorem dJ1_charAt_3b067_7 : decode cJ1_charAt_3b067 7 = .ok (.iload_n 1, 1) := by decide +kernel
theorem dJ1_charAt_3b067_8 : decode cJ1_charAt_3b067 8 = .ok (.baload, 1) := by decide +kernel
theorem dJ1_charAt_3b067_9 : decode cJ1_charAt_3b067 9 = .ok (.sipush 255, 3) := by decide +kernel
theorem dJ1_charAt_3b067_12 : decode cJ1_charAt_3b067 12 = .ok (.iand, 1) := by decide +kernel
theorem dJ1_charAt_3b067_13 : decode cJ1_charAt_3b067 13 = .ok (.i2c, 1) := by decide +kernel
theorem dJ1_charAt_3b067_14 : decode cJ1_charAt_3b067 14 = .ok (.ireturn, 1) := by decide +kernel
theorem dJ3_checkIndex_8e157_0 : decode cJ3_checkIndex_8e157 0 = .ok (.iload_n 0, 1) := by decide +kernel
theorem dJ3_checkIndex_8e157_1 : decode cJ3_checkIndex_8e157 1 = .ok (.ifCond .lt 8, 3) := by decide +kernel
theorem dJ3_checkIndex_8e157_4 : decode cJ3_checkIndex_8e157 4 = .ok (.iload_n 0, 1) := by decide +kernel
theorem dJ3_checkIndex_8e157_5 : decode cJ3_checkIndex_8e157 5 = .ok (.iload_n 1, 1) := by decide +kernel
theorem dJ3_checkIndex_8e157_6 : decode cJ3_checkIndex_8e157 6 = .ok (.if_icmp .lt 10, 3) := by decide +kernel
theorem dJ3_checkIndex_8e157_16 : decode cJ3_checkIndex_8e157 16 = .ok (.iload_n 0, 1) := by decide +kernel
theorem dJ3_checkIndex_8e157_17 : decode cJ3_checkIndex_8e157 17 = .ok (.ireturn, 1) := by decide +kernel
theorem dX11_end_0 : decode cX11_end 0 = .ok (.iload_n 1, 1) := by decide +kernel
theorem dX11_end_1 : decode cX11_end 1 = .ok (.ifCond .lt 14, 3) := by decide +kernel
theorem dX11_end_4 : decode cX11_end 4 = .ok (.iload_n 1, 1) := by decide +kernel
theorem dX11_end_5 : decode cX11_end 5 = .ok (.aload_n 0, 1) := by decide +kernel
theorem dX11_end_6 : decode cX11_end 6 = .ok (.getfield 10, 3) := by decide +kernel
theorem dX11_end_9 : decode cX11_end 9 = .ok (.getfield 111, 3) := by decide +kernel
theorem dX11_end_12 : decode cX11_end 12 = .ok (.if_icmp .le 5, 3) := by decide +kernel
theorem dX11_end_15 : decode cX11_end 15 = .ok (.iconst 0, 1) := by decide +kernel
theorem dX11_end_16 : decode cX11_end 16 = .ok (.ireturn, 1) := by decide +kernel
theorem dX11_end_17 : decode cX11_end 17 = .ok (.aload_n 0, 1) := by decide +kernel
theorem dX11_end_18 : decode cX11_end 18 = .ok (.getfield 10, 3) := by decide +kernel
theorem dX11_end_21 : decode cX11_end 21 = .ok (.iload_n 1, 1) := by decide +kernel
theorem dX11_end_22 : decode cX11_end 22 = .ok (.putfield 111, 3) := by decide +kernel
theorem dX11_end_25 : decode cX11_end 25 = .ok (.iconst 1, 1) := by decide +kernel
theorem dX11_end_26 : decode cX11_end 26 = .ok (.ireturn, 1) := by decide +kernel
theorem dX11_feed_0 : decode cX11_feed 0 = .ok (.aload_n 0, 1) := by decide +kernel
theorem dX11_feed_1 : decode cX11_feed 1 = .ok (.getfield 10, 3) := by decide +kernel
theorem dX11_feed_4 : decode cX11_feed 4 = .ok (.bipush 20, 2) := by decide +kernel
theorem dX11_feed_6 : decode cX11_feed 6 = .ok (.invokevirtual 103, 3) := by decide +kernel
theorem dX11_feed_9 : decode cX11_feed 9 = .ok (.ifCond .ne 5, 3) := by decide +kernel
theorem dX11_feed_12 : decode cX11_feed 12 = .ok (.iconst (-1), 1) := by decide +kernel
theorem dX11_feed_13 : decode cX11_feed 13 = .ok (.ireturn, 1) := by decide +kernel
theorem dX11_feed_14 : decode cX11_feed 14 = .ok (.aload_n 0, 1) := by decide +kernel
theorem dX11_feed_15 : decode cX11_feed 15 = .ok (.getfield 10, 3) := by decide +kernel
theorem dX11_feed_18 : decode cX11_feed 18 = .ok (.iload_n 1, 1) := by decide +kernel
theorem dX11_feed_19 : decode cX11_feed 19 = .ok (.invokevirtual 107, 3) := by decide +kernel
theorem dX11_feed_22 : decode cX11_feed 22 = .ok (.aload_n 0, 1) := by decide +kernel
theorem dX11_feed_23 : decode cX11_feed 23 = .ok (.getfield 10, 3) := by decide +kernel
theorem dX11_feed_26 : decode cX11_feed 26 = .ok (.iload_n 2, 1) := by decide +kernel
theorem dX11_feed_27 : decode cX11_feed 27 = .ok (.invokevirtual 107, 3) := by decide +kernel
theorem dX11_feed_30 : decode cX11_feed 30 = .ok (.aload_n 0, 1) := by decide +kernel
theorem dX11_feed_31 : decode cX11_feed 31 = .ok (.getfield 10, 3) := by decide +kernel
theorem dX11_feed_34 : decode cX11_feed 34 = .ok (.iload_n 3, 1) := by decide +kernel
theorem dX11_feed_35 : decode cX11_feed 35 = .ok (.invokevirtual 107, 3) := by decide +kernel
theorem dX11_feed_38 : decode cX11_feed 38 = .ok (.aload_n 0, 1) := by decide +kernel
theorem dX11_feed_39 : decode cX11_feed 39 = .ok (.getfield 10, 3) := by decide +kernel
theorem dX11_feed_42 : decode cX11_feed 42 = .ok (.iload 4, 2) := by decide +kernel
theorem dX11_feed_44 : decode cX11_feed 44 = .ok (.invokevirtual 107, 3) := by decide +kernel
theorem dX11_feed_47 : decode cX11_feed 47 = .ok (.aload_n 0, 1) := by decide +kernel
theorem dX11_feed_48 : decode cX11_feed 48 = .ok (.getfield 10, 3) := by decide +kernel
theorem dX11_feed_51 : decode cX11_feed 51 = .ok (.iload 5, 2) := by decide +kernel
theorem dX11_feed_53 : decode cX11_feed 53 = .ok (.invokevirtual 107, 3) := by decide +kernel
theorem dX11_feed_56 : decode cX11_feed 56 = .ok (.aload_n 0, 1) := by decide +kernel
theorem dX11_feed_57 : decode cX11_feed 57 = .ok (.getfield 10, 3) := by decide +kernel
theorem dX11_feed_60 : decode cX11_feed 60 = .ok (.getfield 111, 3) := by decide +kernel
theorem dX11_feed_63 : decode cX11_feed 63 = .ok (.ireturn, 1) := by decide +kernel
theorem dX11_ledger_0 : decode cX11_ledger 0 = .ok (.aload_n 0, 1) := by decide +kernel
theorem dX11_ledger_1 : decode cX11_ledger 1 = .ok (.getfield 10, 3) := by decide +kernel
theorem dX11_ledger_4 : decode cX11_ledger 4 = .ok (.getfield 111, 3) := by decide +kernel
theorem dX11_ledger_7 : decode cX11_ledger 7 = .ok (.istore_n 1, 1) := by decide +kernel
theorem dX11_ledger_8 : decode cX11_ledger 8 = .ok (.aload_n 0, 1) := by decide +kernel
theorem dX11_ledger_9 : decode cX11_ledger 9 = .ok (.getfield 10, 3) := by decide +kernel
theorem dX11_ledger_12 : decode cX11_ledger 12 = .ok (.iconst 0, 1) := by decide +kernel
theorem dX11_ledger_13 : decode cX11_ledger 13 = .ok (.putfield 111, 3) := by decide +kernel
theorem dX11_ledger_16 : decode cX11_ledger 16 = .ok (.aload_n 0, 1) := by decide +kernel
theorem dX11_ledger_17 : decode cX11_ledger 17 = .ok (.iload_n 1, 1) := by decide +kernel
theorem dX11_ledger_18 : decode cX11_ledger 18 = .ok (.invokevirtual 293, 3) := by decide +kernel
theorem dX11_ledger_21 : decode cX11_ledger 21 = .ok (.ifCond .eq 11, 3) := by decide +kernel
theorem dX11_ledger_24 : decode cX11_ledger 24 = .ok (.aload_n 0, 1) := by decide +kernel
theorem dX11_ledger_25 : decode cX11_ledger 25 = .ok (.iload_n 1, 1) := by decide +kernel
theorem dX11_ledger_26 : decode cX11_ledger 26 = .ok (.invokevirtual 296, 3) := by decide +kernel
theorem dX11_ledger_29 : decode cX11_ledger 29 = .ok (.goto 4, 3) := by decide +kernel
theorem dX11_ledger_32 : decode cX11_ledger 32 = .ok (.iconst (-1), 1) := by decide +kernel
theorem dX11_ledger_33 : decode cX11_ledger 33 = .ok (.ireturn, 1) := by decide +kernel
theorem dX11_roll_0 : decode cX11_roll 0 = .ok (.iload_n 1, 1) := by decide +kernel
theorem dX11_roll_1 : decode cX11_roll 1 = .ok (.ifCond .lt 8, 3) := by decide +kernel
theorem dX11_roll_4 : decode cX11_roll 4 = .ok (.iload_n 1, 1) := by decide +kernel
theorem dX11_roll_5 : decode cX11_roll 5 = .ok (.iconst 1, 1) := by decide +kernel
theorem dX11_roll_6 : decode cX11_roll 6 = .ok (.if_icmp .le 7, 3) := by decide +kernel
theorem dX11_roll_9 : decode cX11_roll 9 = .ok (.sipush (-1000), 3) := by decide +kernel
theorem dX11_roll_12 : decode cX11_roll 12 = .ok (.ireturn, 1) := by decide +kernel
theorem dX11_roll_13 : decode cX11_roll 13 = .ok (.aload_n 0, 1) := by decide +kernel
theorem dX11_roll_14 : decode cX11_roll 14 = .ok (.getfield 57, 3) := by decide +kernel
theorem dX11_roll_17 : decode cX11_roll 17 = .ok (.invokevirtual 327, 3) := by decide +kernel
theorem dX11_roll_20 : decode cX11_roll 20 = .ok (.istore_n 2, 1) := by decide +kernel
theorem dX11_roll_21 : decode cX11_roll 21 = .ok (.aload_n 0, 1) := by decide +kernel
theorem dX11_roll_22 : decode cX11_roll 22 = .ok (.getfield 10, 3) := by decide +kernel
theorem dX11_roll_25 : decode cX11_roll 25 = .ok (.iconst 0, 1) := by decide +kernel
theorem dX11_roll_26 : decode cX11_roll 26 = .ok (.putfield 111, 3) := by decide +kernel
theorem dX11_roll_29 : decode cX11_roll 29 = .ok (.aload_n 0, 1) := by decide +kernel
theorem dX11_roll_30 : decode cX11_roll 30 = .ok (.aload_n 0, 1) := by decide +kernel
theorem dX11_roll_31 : decode cX11_roll 31 = .ok (.getfield 10, 3) := by decide +kernel
theorem dX11_roll_34 : decode cX11_roll 34 = .ok (.getfield 119, 3) := by decide +kernel
theorem dX11_roll_37 : decode cX11_roll 37 = .ok (.putfield 122, 3) := by decide +kernel
theorem dX11_roll_40 : decode cX11_roll 40 = .ok (.iload_n 2, 1) := by decide +kernel
theorem dX11_roll_41 : decode cX11_roll 41 = .ok (.ifCond .ne 14, 3) := by decide +kernel
theorem dX11_roll_44 : decode cX11_roll 44 = .ok (.bipush (-2), 2) := by decide +kernel
theorem dX11_roll_46 : decode cX11_roll 46 = .ok (.aload_n 0, 1) := by decide +kernel
theorem dX11_roll_47 : decode cX11_roll 47 = .ok (.getfield 10, 3) := by decide +kernel
theorem dX11_roll_50 : decode cX11_roll 50 = .ok (.getfield 125, 3) := by decide +kernel
theorem dX11_roll_53 : decode cX11_roll 53 = .ok (.isub, 1) := by decide +kernel
theorem dX11_roll_54 : decode cX11_roll 54 = .ok (.ireturn, 1) := by decide +kernel
theorem dX11_roll_55 : decode cX11_roll 55 = .ok (.iload_n 1, 1) := by decide +kernel
theorem dX11_roll_56 : decode cX11_roll 56 = .ok (.iconst 1, 1) := by decide +kernel
theorem dX11_roll_57 : decode cX11_roll 57 = .ok (.if_icmp .ne 26, 3) := by decide +kernel
theorem dX11_roll_60 : decode cX11_roll 60 = .ok (.aload_n 0, 1) := by decide +kernel
theorem dX11_roll_61 : decode cX11_roll 61 = .ok (.getfield 50, 3) := by decide +kernel
theorem dX11_roll_64 : decode cX11_roll 64 = .ok (.aload_n 0, 1) := by decide +kernel
theorem dX11_roll_65 : decode cX11_roll 65 = .ok (.getfield 40, 3) := by decide +kernel
theorem dX11_roll_68 : decode cX11_roll 68 = .ok (.invokevirtual 237, 3) := by decide +kernel
theorem dX11_roll_71 : decode cX11_roll 71 = .ok (.aload_n 0, 1) := by decide +kernel
theorem dX11_roll_72 : decode cX11_roll 72 = .ok (.getfield 57, 3) := by decide +kernel
theorem dX11_roll_75 : decode cX11_roll 75 = .ok (.aload_n 0, 1) := by decide +kernel
theorem dX11_roll_76 : decode cX11_roll 76 = .ok (.getfield 40, 3) := by decide +kernel
theorem dX11_roll_79 : decode cX11_roll 79 = .ok (.invokevirtual 328, 3) := by decide +kernel
theorem dX11_roll_82 : decode cX11_roll 82 = .ok (.ireturn, 1) := by decide +kernel
theorem dX11_roll_83 : decode cX11_roll 83 = .ok (.aload_n 0, 1) := by decide +kernel
theorem dX11_roll_84 : decode cX11_roll 84 = .ok (.getfield 44, 3) := by decide +kernel
theorem dX11_roll_87 : decode cX11_roll 87 = .ok (.aload_n 0, 1) := by decide +kernel
theorem dX11_roll_88 : decode cX11_roll 88 = .ok (.getfield 40, 3) := by decide +kernel
theorem dX11_roll_91 : decode cX11_roll 91 = .ok (.invokevirtual 325, 3) := by decide +kernel
theorem dX11_roll_94 : decode cX11_roll 94 = .ok (.aload_n 0, 1) := by decide +kernel
theorem dX11_roll_95 : decode cX11_roll 95 = .ok (.getfield 57, 3) := by decide +kernel
theorem dX11_roll_98 : decode cX11_roll 98 = .ok (.aload_n 0, 1) := by decide +kernel
theorem dX11_roll_99 : decode cX11_roll 99 = .ok (.getfield 44, 3) := by decide +kernel
theorem dX11_roll_102 : decode cX11_roll 102 = .ok (.invokevirtual 328, 3) := by decide +kernel
theorem dX11_roll_105 : decode cX11_roll 105 = .ok (.ireturn, 1) := by decide +kernel
theorem dX11_sentence_0 : decode cX11_sentence 0 = .ok (.aload_n 0, 1) := by decide +kernel
theorem dX11_sentence_1 : decode cX11_sentence 1 = .ok (.getfield 68, 3) := by decide +kernel
theorem dX11_sentence_4 : decode cX11_sentence 4 = .ok (.invokevirtual 348, 3) := by decide +kernel
theorem dX11_sentence_7 : decode cX11_sentence 7 = .ok (.istore_n 1, 1) := by decide +kernel
theorem dX11_sentence_8 : decode cX11_sentence 8 = .ok (.aload_n 0, 1) := by decide +kernel
theorem dX11_sentence_9 : decode cX11_sentence 9 = .ok (.getfield 10, 3) := by decide +kernel
theorem dX11_sentence_12 : decode cX11_sentence 12 = .ok (.iconst 0, 1) := by decide +kernel
theorem dX11_sentence_13 : decode cX11_sentence 13 = .ok (.putfield 111, 3) := by decide +kernel
theorem dX11_sentence_16 : decode cX11_sentence 16 = .ok (.aload_n 0, 1) := by decide +kernel
theorem dX11_sentence_17 : decode cX11_sentence 17 = .ok (.aload_n 0, 1) := by decide +kernel
theorem dX11_sentence_18 : decode cX11_sentence 18 = .ok (.getfield 10, 3) := by decide +kernel
theorem dX11_sentence_21 : decode cX11_sentence 21 = .ok (.getfield 119, 3) := by decide +kernel
theorem dX11_sentence_24 : decode cX11_sentence 24 = .ok (.putfield 122, 3) := by decide +kernel
theorem dX11_sentence_27 : decode cX11_sentence 27 = .ok (.iload_n 1, 1) := by decide +kernel
theorem dX11_sentence_28 : decode cX11_sentence 28 = .ok (.ifCond .ne 13, 3) := by decide +kernel
theorem dX11_sentence_31 : decode cX11_sentence 31 = .ok (.iconst (-1), 1) := by decide +kernel
theorem dX11_sentence_32 : decode cX11_sentence 32 = .ok (.aload_n 0, 1) := by decide +kernel
theorem dX11_sentence_33 : decode cX11_sentence 33 = .ok (.getfield 10, 3) := by decide +kernel
theorem dX11_sentence_36 : decode cX11_sentence 36 = .ok (.getfield 125, 3) := by decide +kernel
theorem dX11_sentence_39 : decode cX11_sentence 39 = .ok (.isub, 1) := by decide +kernel
theorem dX11_sentence_40 : decode cX11_sentence 40 = .ok (.ireturn, 1) := by decide +kernel
theorem dX11_sentence_41 : decode cX11_sentence 41 = .ok (.aload_n 0, 1) := by decide +kernel
theorem dX11_sentence_42 : decode cX11_sentence 42 = .ok (.getfield 64, 3) := by decide +kernel
theorem dX11_sentence_45 : decode cX11_sentence 45 = .ok (.aload_n 0, 1) := by decide +kernel
theorem dX11_sentence_46 : decode cX11_sentence 46 = .ok (.getfield 68, 3) := by decide +kernel
theorem dX11_sentence_49 : decode cX11_sentence 49 = .ok (.invokevirtual 349, 3) := by decide +kernel
theorem dX11_sentence_52 : decode cX11_sentence 52 = .ok (.aload_n 0, 1) := by decide +kernel
theorem dX11_sentence_53 : decode cX11_sentence 53 = .ok (.getfield 64, 3) := by decide +kernel
theorem dX11_sentence_56 : decode cX11_sentence 56 = .ok (.getfield 137, 3) := by decide +kernel
theorem dX11_sentence_59 : decode cX11_sentence 59 = .ok (.ireturn, 1) := by decide +kernel
theorem dX11_soul_0 : decode cX11_soul 0 = .ok (.aload_n 0, 1) := by decide +kernel
theorem dX11_soul_1 : decode cX11_soul 1 = .ok (.getfield 19, 3) := by decide +kernel
theorem dX11_soul_4 : decode cX11_soul 4 = .ok (.iload_n 1, 1) := by decide +kernel
theorem dX11_soul_5 : decode cX11_soul 5 = .ok (.invokevirtual 169, 3) := by decide +kernel
theorem dX11_soul_8 : decode cX11_soul 8 = .ok (.ifCond .eq 13, 3) := by decide +kernel
theorem dX11_soul_11 : decode cX11_soul 11 = .ok (.iload_n 2, 1) := by decide +kernel
theorem dX11_soul_12 : decode cX11_soul 12 = .ok (.ifCond .lt 9, 3) := by decide +kernel
theorem dX11_soul_15 : decode cX11_soul 15 = .ok (.iload_n 2, 1) := by decide +kernel
theorem dX11_soul_16 : decode cX11_soul 16 = .ok (.bipush 7, 2) := by decide +kernel
theorem dX11_soul_18 : decode cX11_soul 18 = .ok (.if_icmp .le 11, 3) := by decide +kernel
theorem dX11_soul_21 : decode cX11_soul 21 = .ok (.new 172, 3) := by decide +kernel
theorem dX11_soul_24 : decode cX11_soul 24 = .ok (.dup, 1) := by decide +kernel
theorem dX11_soul_25 : decode cX11_soul 25 = .ok (.invokespecial 174, 3) := by decide +kernel
theorem dX11_soul_28 : decode cX11_soul 28 = .ok (.athrow, 1) := by decide +kernel
theorem dX11_soul_29 : decode cX11_soul 29 = .ok (.iload_n 2, 1) := by decide +kernel
theorem dX11_soul_30 : decode cX11_soul 30 = .ok (.tableswitch 132 0 6 #[42, 52, 62, 79, 89, 98, 115], 42) := by decide +kernel
theorem dX11_soul_72 : decode cX11_soul 72 = .ok (.aload_n 0, 1) := by decide +kernel
theorem dX11_soul_73 : decode cX11_soul 73 = .ok (.getfield 40, 3) := by decide +kernel
theorem dX11_soul_76 : decode cX11_soul 76 = .ok (.getfield 175, 3) := by decide +kernel
theorem dX11_soul_79 : decode cX11_soul 79 = .ok (.iload_n 1, 1) := by decide +kernel
theorem dX11_soul_80 : decode cX11_soul 80 = .ok (.iaload, 1) := by decide +kernel
theorem dX11_soul_81 : decode cX11_soul 81 = .ok (.ireturn, 1) := by decide +kernel
theorem dX11_soul_82 : decode cX11_soul 82 = .ok (.aload_n 0, 1) := by decide +kernel
theorem dX11_soul_83 : decode cX11_soul 83 = .ok (.getfield 40, 3) := by decide +kernel
theorem dX11_soul_86 : decode cX11_soul 86 = .ok (.getfield 178, 3) := by decide +kernel
theorem dX11_soul_89 : decode cX11_soul 89 = .ok (.iload_n 1, 1) := by decide +kernel
theorem dX11_soul_90 : decode cX11_soul 90 = .ok (.iaload, 1) := by decide +kernel
theorem dX11_soul_91 : decode cX11_soul 91 = .ok (.ireturn, 1) := by decide +kernel
theorem dX11_soul_92 : decode cX11_soul 92 = .ok (.aload_n 0, 1) := by decide +kernel
theorem dX11_soul_93 : decode cX11_soul 93 = .ok (.getfield 40, 3) := by decide +kernel
theorem dX11_soul_96 : decode cX11_soul 96 = .ok (.iload_n 1, 1) := by decide +kernel
theorem dX11_soul_97 : decode cX11_soul 97 = .ok (.invokevirtual 181, 3) := by decide +kernel
theorem dX11_soul_100 : decode cX11_soul 100 = .ok (.ifCond .eq 7, 3) := by decide +kernel
theorem dX11_soul_103 : decode cX11_soul 103 = .ok (.iconst 1, 1) := by decide +kernel
theorem dX11_soul_104 : decode cX11_soul 104 = .ok (.goto 4, 3) := by decide +kernel
theorem dX11_soul_107 : decode cX11_soul 107 = .ok (.iconst 0, 1) := by decide +kernel
theorem dX11_soul_108 : decode cX11_soul 108 = .ok (.ireturn, 1) := by decide +kernel
theorem dX11_soul_109 : decode cX11_soul 109 = .ok (.aload_n 0, 1) := by decide +kernel
theorem dX11_soul_110 : decode cX11_soul 110 = .ok (.getfield 19, 3) := by decide +kernel
theorem dX11_soul_113 : decode cX11_soul 113 = .ok (.getfield 184, 3) := by decide +kernel
theorem dX11_soul_116 : decode cX11_soul 116 = .ok (.iload_n 1, 1) := by decide +kernel
theorem dX11_soul_117 : decode cX11_soul 117 = .ok (.iaload, 1) := by decide +kernel
theorem dX11_soul_118 : decode cX11_soul 118 = .ok (.ireturn, 1) := by decide +kernel
theorem dX11_soul_119 : decode cX11_soul 119 = .ok (.aload_n 0, 1) := by decide +kernel
theorem dX11_soul_120 : decode cX11_soul 120 = .ok (.getfield 40, 3) := by decide +kernel
theorem dX11_soul_123 : decode cX11_soul 123 = .ok (.iload_n 1, 1) := by decide +kernel
theorem dX11_soul_124 : decode cX11_soul 124 = .ok (.invokevirtual 187, 3) := by decide +kernel
theorem dX11_soul_127 : decode cX11_soul 127 = .ok (.ireturn, 1) := by decide +kernel
theorem dX11_soul_128 : decode cX11_soul 128 = .ok (.aload_n 0, 1) := by decide +kernel
theorem dX11_soul_129 : decode cX11_soul 129 = .ok (.getfield 40, 3) := by decide +kernel
theorem dX11_soul_132 : decode cX11_soul 132 = .ok (.iload_n 1, 1) := by decide +kernel
theorem dX11_soul_133 : decode cX11_soul 133 = .ok (.invokevirtual 190, 3) := by decide +kernel
theorem dX11_soul_136 : decode cX11_soul 136 = .ok (.ifCond .eq 7, 3) := by decide +kernel
theorem dX11_soul_139 : decode cX11_soul 139 = .ok (.iconst 1, 1) := by decide +kernel
theorem dX11_soul_140 : decode cX11_soul 140 = .ok (.goto 4, 3) := by decide +kernel
theorem dX11_soul_143 : decode cX11_soul 143 = .ok (.iconst 0, 1) := by decide +kernel
theorem dX11_soul_144 : decode cX11_soul 144 = .ok (.ireturn, 1) := by decide +kernel
theorem dX11_soul_145 : decode cX11_soul 145 = .ok (.aload_n 0, 1) := by decide +kernel
theorem dX11_soul_146 : decode cX11_soul 146 = .ok (.getfield 40, 3) := by decide +kernel
theorem dX11_soul_149 : decode cX11_soul 149 = .ok (.iload_n 1, 1) := by decide +kernel
theorem dX11_soul_150 : decode cX11_soul 150 = .ok (.invokevirtual 193, 3) := by decide +kernel
theorem dX11_soul_153 : decode cX11_soul 153 = .ok (.ifCond .eq 7, 3) := by decide +kernel
theorem dX11_soul_156 : decode cX11_soul 156 = .ok (.iconst 1, 1) := by decide +kernel
theorem dX11_soul_157 : decode cX11_soul 157 = .ok (.goto 4, 3) := by decide +kernel
theorem dX11_soul_160 : decode cX11_soul 160 = .ok (.iconst 0, 1) := by decide +kernel
theorem dX11_soul_161 : decode cX11_soul 161 = .ok (.ireturn, 1) := by decide +kernel
theorem dX11_soul_162 : decode cX11_soul 162 = .ok (.aload_n 0, 1) := by decide +kernel
theorem dX11_soul_163 : decode cX11_soul 163 = .ok (.getfield 40, 3) := by decide +kernel
theorem dX11_soul_166 : decode cX11_soul 166 = .ok (.getfield 196, 3) := by decide +kernel
theorem dX11_soul_169 : decode cX11_soul 169 = .ok (.iload_n 1, 1) := by decide +kernel
theorem dX11_soul_170 : decode cX11_soul 170 = .ok (.iaload, 1) := by decide +kernel
theorem dX11_soul_171 : decode cX11_soul 171 = .ok (.ireturn, 1) := by decide +kernel
theorem dX11_town_0 : decode cX11_town 0 = .ok (.aload_n 0, 1) := by decide +kernel
theorem dX11_town_1 : decode cX11_town 1 = .ok (.getfield 31, 3) := by decide +kernel
theorem dX11_town_4 : decode cX11_town 4 = .ok (.invokevirtual 115, 3) := by decide +kernel
theorem dX11_town_7 : decode cX11_town 7 = .ok (.istore_n 1, 1) := by decide +kernel
theorem dX11_town_8 : decode cX11_town 8 = .ok (.aload_n 0, 1) := by decide +kernel
theorem dX11_town_9 : decode cX11_town 9 = .ok (.getfield 10, 3) := by decide +kernel
theorem dX11_town_12 : decode cX11_town 12 = .ok (.iconst 0, 1) := by decide +kernel
theorem dX11_town_13 : decode cX11_town 13 = .ok (.putfield 111, 3) := by decide +kernel
theorem dX11_town_16 : decode cX11_town 16 = .ok (.aload_n 0, 1) := by decide +kernel
theorem dX11_town_17 : decode cX11_town 17 = .ok (.aload_n 0, 1) := by decide +kernel
theorem dX11_town_18 : decode cX11_town 18 = .ok (.getfield 10, 3) := by decide +kernel
theorem dX11_town_21 : decode cX11_town 21 = .ok (.getfield 119, 3) := by decide +kernel
theorem dX11_town_24 : decode cX11_town 24 = .ok (.putfield 122, 3) := by decide +kernel
theorem dX11_town_27 : decode cX11_town 27 = .ok (.iload_n 1, 1) := by decide +kernel
theorem dX11_town_28 : decode cX11_town 28 = .ok (.ifCond .ne 13, 3) := by decide +kernel
theorem dX11_town_31 : decode cX11_town 31 = .ok (.iconst (-1), 1) := by decide +kernel
theorem dX11_town_32 : decode cX11_town 32 = .ok (.aload_n 0, 1) := by decide +kernel
theorem dX11_town_33 : decode cX11_town 33 = .ok (.getfield 10, 3) := by decide +kernel
theorem dX11_town_36 : decode cX11_town 36 = .ok (.getfield 125, 3) := by decide +kernel
theorem dX11_town_39 : decode cX11_town 39 = .ok (.isub, 1) := by decide +kernel
theorem dX11_town_40 : decode cX11_town 40 = .ok (.ireturn, 1) := by decide +kernel
theorem dX11_town_41 : decode cX11_town 41 = .ok (.aload_n 0, 1) := by decide +kernel
theorem dX11_town_42 : decode cX11_town 42 = .ok (.getfield 19, 3) := by decide +kernel
theorem dX11_town_45 : decode cX11_town 45 = .ok (.aload_n 0, 1) := by decide +kernel
theorem dX11_town_46 : decode cX11_town 46 = .ok (.getfield 23, 3) := by decide +kernel
theorem dX11_town_49 : decode cX11_town 49 = .ok (.invokevirtual 128, 3) := by decide +kernel
theorem dX11_town_52 : decode cX11_town 52 = .ok (.aload_n 0, 1) := by decide +kernel
theorem dX11_town_53 : decode cX11_town 53 = .ok (.getfield 40, 3) := by decide +kernel
theorem dX11_town_56 : decode cX11_town 56 = .ok (.invokevirtual 131, 3) := by decide +kernel
theorem dX11_town_59 : decode cX11_town 59 = .ok (.aload_n 0, 1) := by decide +kernel
theorem dX11_town_60 : decode cX11_town 60 = .ok (.getfield 50, 3) := by decide +kernel
theorem dX11_town_63 : decode cX11_town 63 = .ok (.invokevirtual 134, 3) := by decide +kernel
theorem dX11_town_66 : decode cX11_town 66 = .ok (.aload_n 0, 1) := by decide +kernel
theorem dX11_town_67 : decode cX11_town 67 = .ok (.getfield 64, 3) := by decide +kernel
theorem dX11_town_70 : decode cX11_town 70 = .ok (.iconst 0, 1) := by decide +kernel
theorem dX11_town_71 : decode cX11_town 71 = .ok (.putfield 137, 3) := by decide +kernel
theorem dX11_town_74 : decode cX11_town 74 = .ok (.aload_n 0, 1) := by decide +kernel
theorem dX11_town_75 : decode cX11_town 75 = .ok (.getfield 31, 3) := by decide +kernel
theorem dX11_town_78 : decode cX11_town 78 = .ok (.getfield 140, 3) := by decide +kernel
theorem dX11_town_81 : decode cX11_town 81 = .ok (.ireturn, 1) := by decide +kernel
theorem dX4_readDeed_0 : decode cX4_readDeed 0 = .ok (.aload_n 0, 1) := by decide +kernel
theorem dX4_readDeed_1 : decode cX4_readDeed 1 = .ok (.getfield 21, 3) := by decide +kernel
theorem dX4_readDeed_4 : decode cX4_readDeed 4 = .ok (.ldc 89, 2) := by decide +kernel
theorem dX4_readDeed_6 : decode cX4_readDeed 6 = .ok (.invokevirtual 52, 3) := by decide +kernel
theorem dX4_readDeed_9 : decode cX4_readDeed 9 = .ok (.ifCond .eq 51, 3) := by decide +kernel
theorem dX4_readDeed_12 : decode cX4_readDeed 12 = .ok (.aload_n 0, 1) := by decide +kernel
theorem dX4_readDeed_13 : decode cX4_readDeed 13 = .ok (.iconst 0, 1) := by decide +kernel
theorem dX4_readDeed_14 : decode cX4_readDeed 14 = .ok (.invokevirtual 79, 3) := by decide +kernel
theorem dX4_readDeed_17 : decode cX4_readDeed 17 = .ok (.ifCond .eq 41, 3) := by decide +kernel
theorem dX4_readDeed_20 : decode cX4_readDeed 20 = .ok (.aload_n 0, 1) := by decide +kernel
theorem dX4_readDeed_21 : decode cX4_readDeed 21 = .ok (.getfield 21, 3) := by decide +kernel
theorem dX4_readDeed_24 : decode cX4_readDeed 24 = .ok (.invokevirtual 91, 3) := by decide +kernel
theorem dX4_readDeed_27 : decode cX4_readDeed 27 = .ok (.ifCond .eq 31, 3) := by decide +kernel
theorem dX4_readDeed_30 : decode cX4_readDeed 30 = .ok (.aload_n 0, 1) := by decide +kernel
theorem dX4_readDeed_31 : decode cX4_readDeed 31 = .ok (.getfield 21, 3) := by decide +kernel
theorem dX4_readDeed_34 : decode cX4_readDeed 34 = .ok (.aload_n 0, 1) := by decide +kernel
theorem dX4_readDeed_35 : decode cX4_readDeed 35 = .ok (.getfield 25, 3) := by decide +kernel
theorem dX4_readDeed_38 : decode cX4_readDeed 38 = .ok (.aload_n 0, 1) := by decide +kernel
theorem dX4_readDeed_39 : decode cX4_readDeed 39 = .ok (.getfield 21, 3) := by decide +kernel
theorem dX4_readDeed_42 : decode cX4_readDeed 42 = .ok (.getfield 56, 3) := by decide +kernel
theorem dX4_readDeed_45 : decode cX4_readDeed 45 = .ok (.invokevirtual 94, 3) := by decide +kernel
theorem dX4_readDeed_48 : decode cX4_readDeed 48 = .ok (.invokevirtual 66, 3) := by decide +kernel
theorem dX4_readDeed_51 : decode cX4_readDeed 51 = .ok (.ifCond .eq 7, 3) := by decide +kernel
theorem dX4_readDeed_54 : decode cX4_readDeed 54 = .ok (.iconst 1, 1) := by decide +kernel
theorem dX4_readDeed_55 : decode cX4_readDeed 55 = .ok (.goto 4, 3) := by decide +kernel
theorem dX4_readDeed_58 : decode cX4_readDeed 58 = .ok (.iconst 0, 1) := by decide +kernel
theorem dX4_readDeed_59 : decode cX4_readDeed 59 = .ok (.ireturn, 1) := by decide +kernel
theorem dX4_readDeed_60 : decode cX4_readDeed 60 = .ok (.aload_n 0, 1) := by decide +kernel
theorem dX4_readDeed_61 : decode cX4_readDeed 61 = .ok (.getfield 21, 3) := by decide +kernel
theorem dX4_readDeed_64 : decode cX4_readDeed 64 = .ok (.ldc 97, 2) := by decide +kernel
theorem dX4_readDeed_66 : decode cX4_readDeed 66 = .ok (.invokevirtual 52, 3) := by decide +kernel
theorem dX4_readDeed_69 : decode cX4_readDeed 69 = .ok (.ifCond .eq 51, 3) := by decide +kernel
theorem dX4_readDeed_72 : decode cX4_readDeed 72 = .ok (.aload_n 0, 1) := by decide +kernel
theorem dX4_readDeed_73 : decode cX4_readDeed 73 = .ok (.iconst 1, 1) := by decide +kernel
theorem dX4_readDeed_74 : decode cX4_readDeed 74 = .ok (.invokevirtual 79, 3) := by decide +kernel
theorem dX4_readDeed_77 : decode cX4_readDeed 77 = .ok (.ifCond .eq 41, 3) := by decide +kernel
theorem dX4_readDeed_80 : decode cX4_readDeed 80 = .ok (.aload_n 0, 1) := by decide +kernel
theorem dX4_readDeed_81 : decode cX4_readDeed 81 = .ok (.getfield 21, 3) := by decide +kernel
theorem dX4_readDeed_84 : decode cX4_readDeed 84 = .ok (.invokevirtual 91, 3) := by decide +kernel
theorem dX4_readDeed_87 : decode cX4_readDeed 87 = .ok (.ifCond .eq 31, 3) := by decide +kernel
theorem dX4_readDeed_90 : decode cX4_readDeed 90 = .ok (.aload_n 0, 1) := by decide +kernel
theorem dX4_readDeed_91 : decode cX4_readDeed 91 = .ok (.getfield 21, 3) := by decide +kernel
theorem dX4_readDeed_94 : decode cX4_readDeed 94 = .ok (.aload_n 0, 1) := by decide +kernel
theorem dX4_readDeed_95 : decode cX4_readDeed 95 = .ok (.getfield 25, 3) := by decide +kernel
theorem dX4_readDeed_98 : decode cX4_readDeed 98 = .ok (.aload_n 0, 1) := by decide +kernel
theorem dX4_readDeed_99 : decode cX4_readDeed 99 = .ok (.getfield 21, 3) := by decide +kernel
theorem dX4_readDeed_102 : decode cX4_readDeed 102 = .ok (.getfield 56, 3) := by decide +kernel
theorem dX4_readDeed_105 : decode cX4_readDeed 105 = .ok (.invokevirtual 60, 3) := by decide +kernel
theorem dX4_readDeed_108 : decode cX4_readDeed 108 = .ok (.invokevirtual 66, 3) := by decide +kernel
theorem dX4_readDeed_111 : decode cX4_readDeed 111 = .ok (.ifCond .eq 7, 3) := by decide +kernel
theorem dX4_readDeed_114 : decode cX4_readDeed 114 = .ok (.iconst 1, 1) := by decide +kernel
theorem dX4_readDeed_115 : decode cX4_readDeed 115 = .ok (.goto 4, 3) := by decide +kernel
theorem dX4_readDeed_118 : decode cX4_readDeed 118 = .ok (.iconst 0, 1) := by decide +kernel
theorem dX4_readDeed_119 : decode cX4_readDeed 119 = .ok (.ireturn, 1) := by decide +kernel
theorem dX4_readDeed_120 : decode cX4_readDeed 120 = .ok (.aload_n 0, 1) := by decide +kernel
theorem dX4_readDeed_121 : decode cX4_readDeed 121 = .ok (.getfield 21, 3) := by decide +kernel
theorem dX4_readDeed_124 : decode cX4_readDeed 124 = .ok (.ldc 99, 2) := by decide +kernel
theorem dX4_readDeed_126 : decode cX4_readDeed 126 = .ok (.invokevirtual 52, 3) := by decide +kernel
theorem dX4_readDeed_129 : decode cX4_readDeed 129 = .ok (.ifCond .eq 51, 3) := by decide +kernel
theorem dX4_readDeed_132 : decode cX4_readDeed 132 = .ok (.aload_n 0, 1) := by decide +kernel
theorem dX4_readDeed_133 : decode cX4_readDeed 133 = .ok (.iconst 2, 1) := by decide +kernel
theorem dX4_readDeed_134 : decode cX4_readDeed 134 = .ok (.invokevirtual 79, 3) := by decide +kernel
theorem dX4_readDeed_137 : decode cX4_readDeed 137 = .ok (.ifCond .eq 41, 3) := by decide +kernel
theorem dX4_readDeed_140 : decode cX4_readDeed 140 = .ok (.aload_n 0, 1) := by decide +kernel
theorem dX4_readDeed_141 : decode cX4_readDeed 141 = .ok (.getfield 21, 3) := by decide +kernel
theorem dX4_readDeed_144 : decode cX4_readDeed 144 = .ok (.invokevirtual 91, 3) := by decide +kernel
theorem dX4_readDeed_147 : decode cX4_readDeed 147 = .ok (.ifCond .eq 31, 3) := by decide +kernel
theorem dX4_readDeed_150 : decode cX4_readDeed 150 = .ok (.aload_n 0, 1) := by decide +kernel
theorem dX4_readDeed_151 : decode cX4_readDeed 151 = .ok (.getfield 21, 3) := by decide +kernel
theorem dX4_readDeed_154 : decode cX4_readDeed 154 = .ok (.aload_n 0, 1) := by decide +kernel
theorem dX4_readDeed_155 : decode cX4_readDeed 155 = .ok (.getfield 25, 3) := by decide +kernel
theorem dX4_readDeed_158 : decode cX4_readDeed 158 = .ok (.aload_n 0, 1) := by decide +kernel
theorem dX4_readDeed_159 : decode cX4_readDeed 159 = .ok (.getfield 21, 3) := by decide +kernel
theorem dX4_readDeed_162 : decode cX4_readDeed 162 = .ok (.getfield 56, 3) := by decide +kernel
theorem dX4_readDeed_165 : decode cX4_readDeed 165 = .ok (.invokevirtual 60, 3) := by decide +kernel
theorem dX4_readDeed_168 : decode cX4_readDeed 168 = .ok (.invokevirtual 66, 3) := by decide +kernel
theorem dX4_readDeed_171 : decode cX4_readDeed 171 = .ok (.ifCond .eq 7, 3) := by decide +kernel
theorem dX4_readDeed_174 : decode cX4_readDeed 174 = .ok (.iconst 1, 1) := by decide +kernel
theorem dX4_readDeed_175 : decode cX4_readDeed 175 = .ok (.goto 4, 3) := by decide +kernel
theorem dX4_readDeed_178 : decode cX4_readDeed 178 = .ok (.iconst 0, 1) := by decide +kernel
theorem dX4_readDeed_179 : decode cX4_readDeed 179 = .ok (.ireturn, 1) := by decide +kernel
theorem dX4_readDeed_180 : decode cX4_readDeed 180 = .ok (.aload_n 0, 1) := by decide +kernel
theorem dX4_readDeed_181 : decode cX4_readDeed 181 = .ok (.getfield 21, 3) := by decide +kernel
theorem dX4_readDeed_184 : decode cX4_readDeed 184 = .ok (.ldc 101, 2) := by decide +kernel
theorem dX4_readDeed_186 : decode cX4_readDeed 186 = .ok (.invokevirtual 52, 3) := by decide +kernel
theorem dX4_readDeed_189 : decode cX4_readDeed 189 = .ok (.ifCond .eq 27, 3) := by decide +kernel
theorem dX4_readDeed_192 : decode cX4_readDeed 192 = .ok (.aload_n 0, 1) := by decide +kernel
theorem dX4_readDeed_193 : decode cX4_readDeed 193 = .ok (.iconst 3, 1) := by decide +kernel
