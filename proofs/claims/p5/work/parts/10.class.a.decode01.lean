theorem dJ0_charAt_5068e_0 : decode cJ0_charAt_5068e 0 = .ok (.aload_n 0, 1) := by decide +kernel
theorem dJ0_charAt_5068e_1 : decode cJ0_charAt_5068e 1 = .ok (.invokevirtual 492, 3) := by decide +kernel
theorem dJ0_charAt_5068e_4 : decode cJ0_charAt_5068e 4 = .ok (.ifCond .eq 12, 3) := by decide +kernel
theorem dJ0_charAt_5068e_7 : decode cJ0_charAt_5068e 7 = .ok (.aload_n 0, 1) := by decide +kernel
theorem dJ0_charAt_5068e_8 : decode cJ0_charAt_5068e 8 = .ok (.getfield 9, 3) := by decide +kernel
theorem dJ0_charAt_5068e_11 : decode cJ0_charAt_5068e 11 = .ok (.iload_n 1, 1) := by decide +kernel
theorem dJ0_charAt_5068e_12 : decode cJ0_charAt_5068e 12 = .ok (.invokestatic 495, 3) := by decide +kernel
theorem dJ0_charAt_5068e_15 : decode cJ0_charAt_5068e 15 = .ok (.ireturn, 1) := by decide +kernel
theorem dJ0_charAt_5068e_16 : decode cJ0_charAt_5068e 16 = .ok (.aload_n 0, 1) := by decide +kernel
theorem dJ0_charAt_5068e_17 : decode cJ0_charAt_5068e 17 = .ok (.getfield 9, 3) := by decide +kernel
theorem dJ0_charAt_5068e_20 : decode cJ0_charAt_5068e 20 = .ok (.iload_n 1, 1) := by decide +kernel
theorem dJ0_charAt_5068e_21 : decode cJ0_charAt_5068e 21 = .ok (.invokestatic 498, 3) := by decide +kernel
theorem dJ0_charAt_5068e_24 : decode cJ0_charAt_5068e 24 = .ok (.ireturn, 1) := by decide +kernel
theorem dJ0_checkIndex_df160_0 : decode cJ0_checkIndex_df160 0 = .ok (.iload_n 0, 1) := by decide +kernel
theorem dJ0_checkIndex_df160_1 : decode cJ0_checkIndex_df160 1 = .ok (.iload_n 1, 1) := by decide +kernel
theorem dJ0_checkIndex_df160_2 : decode cJ0_checkIndex_df160 2 = .ok (.getstatic 1053, 3) := by decide +kernel
theorem dJ0_checkIndex_df160_5 : decode cJ0_checkIndex_df160 5 = .ok (.invokestatic 1059, 3) := by decide +kernel
theorem dJ0_checkIndex_df160_8 : decode cJ0_checkIndex_df160 8 = .ok (.pop, 1) := by decide +kernel
theorem dJ0_checkIndex_df160_9 : decode cJ0_checkIndex_df160 9 = .ok (.return_, 1) := by decide +kernel
theorem dJ0_coder_7d493_0 : decode cJ0_coder_7d493 0 = .ok (.getstatic 38, 3) := by decide +kernel
theorem dJ0_coder_7d493_3 : decode cJ0_coder_7d493 3 = .ok (.ifCond .eq 10, 3) := by decide +kernel
theorem dJ0_coder_7d493_6 : decode cJ0_coder_7d493 6 = .ok (.aload_n 0, 1) := by decide +kernel
theorem dJ0_coder_7d493_7 : decode cJ0_coder_7d493 7 = .ok (.getfield 15, 3) := by decide +kernel
theorem dJ0_coder_7d493_10 : decode cJ0_coder_7d493 10 = .ok (.goto 4, 3) := by decide +kernel
theorem dJ0_coder_7d493_13 : decode cJ0_coder_7d493 13 = .ok (.iconst 1, 1) := by decide +kernel
theorem dJ0_coder_7d493_14 : decode cJ0_coder_7d493 14 = .ok (.ireturn, 1) := by decide +kernel
theorem dJ0_isLatin1_aae02_0 : decode cJ0_isLatin1_aae02 0 = .ok (.getstatic 38, 3) := by decide +kernel
theorem dJ0_isLatin1_aae02_3 : decode cJ0_isLatin1_aae02 3 = .ok (.ifCond .eq 14, 3) := by decide +kernel
theorem dJ0_isLatin1_aae02_6 : decode cJ0_isLatin1_aae02 6 = .ok (.aload_n 0, 1) := by decide +kernel
theorem dJ0_isLatin1_aae02_7 : decode cJ0_isLatin1_aae02 7 = .ok (.getfield 15, 3) := by decide +kernel
theorem dJ0_isLatin1_aae02_10 : decode cJ0_isLatin1_aae02 10 = .ok (.ifCond .ne 7, 3) := by decide +kernel
theorem dJ0_isLatin1_aae02_13 : decode cJ0_isLatin1_aae02 13 = .ok (.iconst 1, 1) := by decide +kernel
theorem dJ0_isLatin1_aae02_14 : decode cJ0_isLatin1_aae02 14 = .ok (.goto 4, 3) := by decide +kernel
theorem dJ0_isLatin1_aae02_17 : decode cJ0_isLatin1_aae02 17 = .ok (.iconst 0, 1) := by decide +kernel
theorem dJ0_isLatin1_aae02_18 : decode cJ0_isLatin1_aae02 18 = .ok (.ireturn, 1) := by decide +kernel
theorem dJ0_length_8abf5_0 : decode cJ0_length_8abf5 0 = .ok (.aload_n 0, 1) := by decide +kernel
theorem dJ0_length_8abf5_1 : decode cJ0_length_8abf5 1 = .ok (.getfield 9, 3) := by decide +kernel
theorem dJ0_length_8abf5_4 : decode cJ0_length_8abf5 4 = .ok (.arraylength, 1) := by decide +kernel
theorem dJ0_length_8abf5_5 : decode cJ0_length_8abf5 5 = .ok (.aload_n 0, 1) := by decide +kernel
theorem dJ0_length_8abf5_6 : decode cJ0_length_8abf5 6 = .ok (.invokevirtual 335, 3) := by decide +kernel
theorem dJ0_length_8abf5_9 : decode cJ0_length_8abf5 9 = .ok (.ishr, 1) := by decide +kernel
theorem dJ0_length_8abf5_10 : decode cJ0_length_8abf5 10 = .ok (.ireturn, 1) := by decide +kernel
theorem dJ1_charAt_3b067_0 : decode cJ1_charAt_3b067 0 = .ok (.iload_n 1, 1) := by decide +kernel
theorem dJ1_charAt_3b067_1 : decode cJ1_charAt_3b067 1 = .ok (.aload_n 0, 1) := by decide +kernel
theorem dJ1_charAt_3b067_2 : decode cJ1_charAt_3b067 2 = .ok (.arraylength, 1) := by decide +kernel
theorem dJ1_charAt_3b067_3 : decode cJ1_charAt_3b067 3 = .ok (.invokestatic 9, 3) := by decide +kernel
theorem dJ1_charAt_3b067_6 : decode cJ1_charAt_3b067 6 = .ok (.aload_n 0, 1) := by decide +kernel
theorem dJ1_charAt_3b067_7 : decode cJ1_charAt_3b067 7 = .ok (.iload_n 1, 1) := by decide +kernel
theorem dJ1_charAt_3b067_8 : decode cJ1_charAt_3b067 8 = .ok (.baload, 1) := by decide +kernel
theorem dJ1_charAt_3b067_9 : decode cJ1_charAt_3b067 9 = .ok (.sipush 255, 3) := by decide +kernel
theorem dJ1_charAt_3b067_12 : decode cJ1_charAt_3b067 12 = .ok (.iand, 1) := by decide +kernel
theorem dJ1_charAt_3b067_13 : decode cJ1_charAt_3b067 13 = .ok (.i2c, 1) := by decide +kernel
theorem dJ1_charAt_3b067_14 : decode cJ1_charAt_3b067 14 = .ok (.ireturn, 1) := by decide +kernel
theorem dJ2_charAt_3b067_0 : decode cJ2_charAt_3b067 0 = .ok (.iload_n 1, 1) := by decide +kernel
theorem dJ2_charAt_3b067_1 : decode cJ2_charAt_3b067 1 = .ok (.aload_n 0, 1) := by decide +kernel
theorem dJ2_charAt_3b067_2 : decode cJ2_charAt_3b067 2 = .ok (.invokestatic 67, 3) := by decide +kernel
theorem dJ2_charAt_3b067_5 : decode cJ2_charAt_3b067 5 = .ok (.aload_n 0, 1) := by decide +kernel
theorem dJ2_charAt_3b067_6 : decode cJ2_charAt_3b067 6 = .ok (.iload_n 1, 1) := by decide +kernel
theorem dJ2_charAt_3b067_7 : decode cJ2_charAt_3b067 7 = .ok (.invokestatic 71, 3) := by decide +kernel
theorem dJ2_charAt_3b067_10 : decode cJ2_charAt_3b067 10 = .ok (.ireturn, 1) := by decide +kernel
theorem dJ2_checkIndex_2214a_0 : decode cJ2_checkIndex_2214a 0 = .ok (.iload_n 0, 1) := by decide +kernel
theorem dJ2_checkIndex_2214a_1 : decode cJ2_checkIndex_2214a 1 = .ok (.aload_n 1, 1) := by decide +kernel
theorem dJ2_checkIndex_2214a_2 : decode cJ2_checkIndex_2214a 2 = .ok (.invokestatic 48, 3) := by decide +kernel
theorem dJ2_checkIndex_2214a_5 : decode cJ2_checkIndex_2214a 5 = .ok (.invokestatic 414, 3) := by decide +kernel
theorem dJ2_checkIndex_2214a_8 : decode cJ2_checkIndex_2214a 8 = .ok (.return_, 1) := by decide +kernel
theorem dJ2_getChar_3b067_0 : decode cJ2_getChar_3b067 0 = .ok (.getstatic 44, 3) := by decide +kernel
theorem dJ2_getChar_3b067_3 : decode cJ2_getChar_3b067 3 = .ok (.ifCond .ne 25, 3) := by decide +kernel
theorem dJ2_getChar_3b067_6 : decode cJ2_getChar_3b067 6 = .ok (.iload_n 1, 1) := by decide +kernel
theorem dJ2_getChar_3b067_7 : decode cJ2_getChar_3b067 7 = .ok (.ifCond .lt 11, 3) := by decide +kernel
theorem dJ2_getChar_3b067_10 : decode cJ2_getChar_3b067 10 = .ok (.iload_n 1, 1) := by decide +kernel
theorem dJ2_getChar_3b067_11 : decode cJ2_getChar_3b067 11 = .ok (.aload_n 0, 1) := by decide +kernel
theorem dJ2_getChar_3b067_12 : decode cJ2_getChar_3b067 12 = .ok (.invokestatic 48, 3) := by decide +kernel
theorem dJ2_getChar_3b067_15 : decode cJ2_getChar_3b067 15 = .ok (.if_icmp .lt 13, 3) := by decide +kernel
theorem dJ2_getChar_3b067_18 : decode cJ2_getChar_3b067 18 = .ok (.new 52, 3) := by decide +kernel
theorem dJ2_getChar_3b067_21 : decode cJ2_getChar_3b067 21 = .ok (.dup, 1) := by decide +kernel
theorem dJ2_getChar_3b067_22 : decode cJ2_getChar_3b067 22 = .ok (.ldc 54, 2) := by decide +kernel
theorem dJ2_getChar_3b067_24 : decode cJ2_getChar_3b067 24 = .ok (.invokespecial 56, 3) := by decide +kernel
theorem dJ2_getChar_3b067_27 : decode cJ2_getChar_3b067 27 = .ok (.athrow, 1) := by decide +kernel
theorem dJ2_getChar_3b067_28 : decode cJ2_getChar_3b067 28 = .ok (.iload_n 1, 1) := by decide +kernel
theorem dJ2_getChar_3b067_29 : decode cJ2_getChar_3b067 29 = .ok (.iconst 1, 1) := by decide +kernel
theorem dJ2_getChar_3b067_30 : decode cJ2_getChar_3b067 30 = .ok (.ishl, 1) := by decide +kernel
theorem dJ2_getChar_3b067_31 : decode cJ2_getChar_3b067 31 = .ok (.istore_n 1, 1) := by decide +kernel
theorem dJ2_getChar_3b067_32 : decode cJ2_getChar_3b067 32 = .ok (.aload_n 0, 1) := by decide +kernel
theorem dJ2_getChar_3b067_33 : decode cJ2_getChar_3b067 33 = .ok (.iload_n 1, 1) := by decide +kernel
theorem dJ2_getChar_3b067_34 : decode cJ2_getChar_3b067 34 = .ok (.iinc 1 1, 3) := by decide +kernel
theorem dJ2_getChar_3b067_37 : decode cJ2_getChar_3b067 37 = .ok (.baload, 1) := by decide +kernel
theorem dJ2_getChar_3b067_38 : decode cJ2_getChar_3b067 38 = .ok (.sipush 255, 3) := by decide +kernel
theorem dJ2_getChar_3b067_41 : decode cJ2_getChar_3b067 41 = .ok (.iand, 1) := by decide +kernel
theorem dJ2_getChar_3b067_42 : decode cJ2_getChar_3b067 42 = .ok (.getstatic 59, 3) := by decide +kernel
theorem dJ2_getChar_3b067_45 : decode cJ2_getChar_3b067 45 = .ok (.ishl, 1) := by decide +kernel
theorem dJ2_getChar_3b067_46 : decode cJ2_getChar_3b067 46 = .ok (.aload_n 0, 1) := by decide +kernel
theorem dJ2_getChar_3b067_47 : decode cJ2_getChar_3b067 47 = .ok (.iload_n 1, 1) := by decide +kernel
theorem dJ2_getChar_3b067_48 : decode cJ2_getChar_3b067 48 = .ok (.baload, 1) := by decide +kernel
theorem dJ2_getChar_3b067_49 : decode cJ2_getChar_3b067 49 = .ok (.sipush 255, 3) := by decide +kernel
theorem dJ2_getChar_3b067_52 : decode cJ2_getChar_3b067 52 = .ok (.iand, 1) := by decide +kernel
theorem dJ2_getChar_3b067_53 : decode cJ2_getChar_3b067 53 = .ok (.getstatic 63, 3) := by decide +kernel
theorem dJ2_getChar_3b067_56 : decode cJ2_getChar_3b067 56 = .ok (.ishl, 1) := by decide +kernel
theorem dJ2_getChar_3b067_57 : decode cJ2_getChar_3b067 57 = .ok (.ior, 1) := by decide +kernel
theorem dJ2_getChar_3b067_58 : decode cJ2_getChar_3b067 58 = .ok (.i2c, 1) := by decide +kernel
theorem dJ2_getChar_3b067_59 : decode cJ2_getChar_3b067 59 = .ok (.ireturn, 1) := by decide +kernel
theorem dJ2_length_9d52b_0 : decode cJ2_length_9d52b 0 = .ok (.aload_n 0, 1) := by decide +kernel
theorem dJ2_length_9d52b_1 : decode cJ2_length_9d52b 1 = .ok (.arraylength, 1) := by decide +kernel
theorem dJ2_length_9d52b_2 : decode cJ2_length_9d52b 2 = .ok (.iconst 1, 1) := by decide +kernel
theorem dJ2_length_9d52b_3 : decode cJ2_length_9d52b 3 = .ok (.ishr, 1) := by decide +kernel
theorem dJ2_length_9d52b_4 : decode cJ2_length_9d52b 4 = .ok (.ireturn, 1) := by decide +kernel
theorem dJ3_checkIndex_8e157_0 : decode cJ3_checkIndex_8e157 0 = .ok (.iload_n 0, 1) := by decide +kernel
theorem dJ3_checkIndex_8e157_1 : decode cJ3_checkIndex_8e157 1 = .ok (.ifCond .lt 8, 3) := by decide +kernel
theorem dJ3_checkIndex_8e157_4 : decode cJ3_checkIndex_8e157 4 = .ok (.iload_n 0, 1) := by decide +kernel
theorem dJ3_checkIndex_8e157_5 : decode cJ3_checkIndex_8e157 5 = .ok (.iload_n 1, 1) := by decide +kernel
theorem dJ3_checkIndex_8e157_6 : decode cJ3_checkIndex_8e157 6 = .ok (.if_icmp .lt 10, 3) := by decide +kernel
theorem dJ3_checkIndex_8e157_9 : decode cJ3_checkIndex_8e157 9 = .ok (.aload_n 2, 1) := by decide +kernel
theorem dJ3_checkIndex_8e157_10 : decode cJ3_checkIndex_8e157 10 = .ok (.iload_n 0, 1) := by decide +kernel
theorem dJ3_checkIndex_8e157_11 : decode cJ3_checkIndex_8e157 11 = .ok (.iload_n 1, 1) := by decide +kernel
theorem dJ3_checkIndex_8e157_12 : decode cJ3_checkIndex_8e157 12 = .ok (.invokestatic 95, 3) := by decide +kernel
theorem dJ3_checkIndex_8e157_15 : decode cJ3_checkIndex_8e157 15 = .ok (.athrow, 1) := by decide +kernel
theorem dJ3_checkIndex_8e157_16 : decode cJ3_checkIndex_8e157 16 = .ok (.iload_n 0, 1) := by decide +kernel
theorem dJ3_checkIndex_8e157_17 : decode cJ3_checkIndex_8e157 17 = .ok (.ireturn, 1) := by decide +kernel
theorem dJ6_bitCount_0f7a4_0 : decode cJ6_bitCount_0f7a4 0 = .ok (.iload_n 0, 1) := by decide +kernel
theorem dJ6_bitCount_0f7a4_1 : decode cJ6_bitCount_0f7a4 1 = .ok (.iload_n 0, 1) := by decide +kernel
theorem dJ6_bitCount_0f7a4_2 : decode cJ6_bitCount_0f7a4 2 = .ok (.iconst 1, 1) := by decide +kernel
theorem dJ6_bitCount_0f7a4_3 : decode cJ6_bitCount_0f7a4 3 = .ok (.iushr, 1) := by decide +kernel
theorem dJ6_bitCount_0f7a4_4 : decode cJ6_bitCount_0f7a4 4 = .ok (.ldc_w 265, 3) := by decide +kernel
theorem dJ6_bitCount_0f7a4_7 : decode cJ6_bitCount_0f7a4 7 = .ok (.iand, 1) := by decide +kernel
theorem dJ6_bitCount_0f7a4_8 : decode cJ6_bitCount_0f7a4 8 = .ok (.isub, 1) := by decide +kernel
theorem dJ6_bitCount_0f7a4_9 : decode cJ6_bitCount_0f7a4 9 = .ok (.istore_n 0, 1) := by decide +kernel
theorem dJ6_bitCount_0f7a4_10 : decode cJ6_bitCount_0f7a4 10 = .ok (.iload_n 0, 1) := by decide +kernel
theorem dJ6_bitCount_0f7a4_11 : decode cJ6_bitCount_0f7a4 11 = .ok (.ldc_w 266, 3) := by decide +kernel
theorem dJ6_bitCount_0f7a4_14 : decode cJ6_bitCount_0f7a4 14 = .ok (.iand, 1) := by decide +kernel
theorem dJ6_bitCount_0f7a4_15 : decode cJ6_bitCount_0f7a4 15 = .ok (.iload_n 0, 1) := by decide +kernel
theorem dJ6_bitCount_0f7a4_16 : decode cJ6_bitCount_0f7a4 16 = .ok (.iconst 2, 1) := by decide +kernel
theorem dJ6_bitCount_0f7a4_17 : decode cJ6_bitCount_0f7a4 17 = .ok (.iushr, 1) := by decide +kernel
theorem dJ6_bitCount_0f7a4_18 : decode cJ6_bitCount_0f7a4 18 = .ok (.ldc_w 266, 3) := by decide +kernel
theorem dJ6_bitCount_0f7a4_21 : decode cJ6_bitCount_0f7a4 21 = .ok (.iand, 1) := by decide +kernel
theorem dJ6_bitCount_0f7a4_22 : decode cJ6_bitCount_0f7a4 22 = .ok (.iadd, 1) := by decide +kernel
theorem dJ6_bitCount_0f7a4_23 : decode cJ6_bitCount_0f7a4 23 = .ok (.istore_n 0, 1) := by decide +kernel
theorem dJ6_bitCount_0f7a4_24 : decode cJ6_bitCount_0f7a4 24 = .ok (.iload_n 0, 1) := by decide +kernel
theorem dJ6_bitCount_0f7a4_25 : decode cJ6_bitCount_0f7a4 25 = .ok (.iload_n 0, 1) := by decide +kernel
theorem dJ6_bitCount_0f7a4_26 : decode cJ6_bitCount_0f7a4 26 = .ok (.iconst 4, 1) := by decide +kernel
theorem dJ6_bitCount_0f7a4_27 : decode cJ6_bitCount_0f7a4 27 = .ok (.iushr, 1) := by decide +kernel
theorem dJ6_bitCount_0f7a4_28 : decode cJ6_bitCount_0f7a4 28 = .ok (.iadd, 1) := by decide +kernel
theorem dJ6_bitCount_0f7a4_29 : decode cJ6_bitCount_0f7a4 29 = .ok (.ldc_w 267, 3) := by decide +kernel
theorem dJ6_bitCount_0f7a4_32 : decode cJ6_bitCount_0f7a4 32 = .ok (.iand, 1) := by decide +kernel
theorem dJ6_bitCount_0f7a4_33 : decode cJ6_bitCount_0f7a4 33 = .ok (.istore_n 0, 1) := by decide +kernel
theorem dJ6_bitCount_0f7a4_34 : decode cJ6_bitCount_0f7a4 34 = .ok (.iload_n 0, 1) := by decide +kernel
theorem dJ6_bitCount_0f7a4_35 : decode cJ6_bitCount_0f7a4 35 = .ok (.iload_n 0, 1) := by decide +kernel
theorem dJ6_bitCount_0f7a4_36 : decode cJ6_bitCount_0f7a4 36 = .ok (.bipush 8, 2) := by decide +kernel
theorem dJ6_bitCount_0f7a4_38 : decode cJ6_bitCount_0f7a4 38 = .ok (.iushr, 1) := by decide +kernel
theorem dJ6_bitCount_0f7a4_39 : decode cJ6_bitCount_0f7a4 39 = .ok (.iadd, 1) := by decide +kernel
theorem dJ6_bitCount_0f7a4_40 : decode cJ6_bitCount_0f7a4 40 = .ok (.istore_n 0, 1) := by decide +kernel
theorem dJ6_bitCount_0f7a4_41 : decode cJ6_bitCount_0f7a4 41 = .ok (.iload_n 0, 1) := by decide +kernel
theorem dJ6_bitCount_0f7a4_42 : decode cJ6_bitCount_0f7a4 42 = .ok (.iload_n 0, 1) := by decide +kernel
theorem dJ6_bitCount_0f7a4_43 : decode cJ6_bitCount_0f7a4 43 = .ok (.bipush 16, 2) := by decide +kernel
theorem dJ6_bitCount_0f7a4_45 : decode cJ6_bitCount_0f7a4 45 = .ok (.iushr, 1) := by decide +kernel
theorem dJ6_bitCount_0f7a4_46 : decode cJ6_bitCount_0f7a4 46 = .ok (.iadd, 1) := by decide +kernel
theorem dJ6_bitCount_0f7a4_47 : decode cJ6_bitCount_0f7a4 47 = .ok (.istore_n 0, 1) := by decide +kernel
theorem dJ6_bitCount_0f7a4_48 : decode cJ6_bitCount_0f7a4 48 = .ok (.iload_n 0, 1) := by decide +kernel
theorem dJ6_bitCount_0f7a4_49 : decode cJ6_bitCount_0f7a4 49 = .ok (.bipush 63, 2) := by decide +kernel
theorem dJ6_bitCount_0f7a4_51 : decode cJ6_bitCount_0f7a4 51 = .ok (.iand, 1) := by decide +kernel
theorem dJ6_bitCount_0f7a4_52 : decode cJ6_bitCount_0f7a4 52 = .ok (.ireturn, 1) := by decide +kernel
theorem dJ9_max_7cf53_0 : decode cJ9_max_7cf53 0 = .ok (.iload_n 0, 1) := by decide +kernel
theorem dJ9_max_7cf53_1 : decode cJ9_max_7cf53 1 = .ok (.iload_n 1, 1) := by decide +kernel
theorem dJ9_max_7cf53_2 : decode cJ9_max_7cf53 2 = .ok (.if_icmp .lt 7, 3) := by decide +kernel
theorem dJ9_max_7cf53_5 : decode cJ9_max_7cf53 5 = .ok (.iload_n 0, 1) := by decide +kernel
theorem dJ9_max_7cf53_6 : decode cJ9_max_7cf53 6 = .ok (.goto 4, 3) := by decide +kernel
theorem dJ9_max_7cf53_9 : decode cJ9_max_7cf53 9 = .ok (.iload_n 1, 1) := by decide +kernel
theorem dJ9_max_7cf53_10 : decode cJ9_max_7cf53 10 = .ok (.ireturn, 1) := by decide +kernel
theorem dJ9_min_7cf53_0 : decode cJ9_min_7cf53 0 = .ok (.iload_n 0, 1) := by decide +kernel
theorem dJ9_min_7cf53_1 : decode cJ9_min_7cf53 1 = .ok (.iload_n 1, 1) := by decide +kernel
theorem dJ9_min_7cf53_2 : decode cJ9_min_7cf53 2 = .ok (.if_icmp .gt 7, 3) := by decide +kernel
theorem dJ9_min_7cf53_5 : decode cJ9_min_7cf53 5 = .ok (.iload_n 0, 1) := by decide +kernel
theorem dJ9_min_7cf53_6 : decode cJ9_min_7cf53 6 = .ok (.goto 4, 3) := by decide +kernel
theorem dJ9_min_7cf53_9 : decode cJ9_min_7cf53 9 = .ok (.iload_n 1, 1) := by decide +kernel
theorem dJ9_min_7cf53_10 : decode cJ9_min_7cf53 10 = .ok (.ireturn, 1) := by decide +kernel
theorem dX0_next_0 : decode cX0_next 0 = .ok (.aload_n 0, 1) := by decide +kernel
theorem dX0_next_1 : decode cX0_next 1 = .ok (.aload_n 0, 1) := by decide +kernel
theorem dX0_next_2 : decode cX0_next 2 = .ok (.getfield 7, 3) := by decide +kernel
theorem dX0_next_5 : decode cX0_next 5 = .ok (.ldc 13, 2) := by decide +kernel
theorem dX0_next_7 : decode cX0_next 7 = .ok (.imul, 1) := by decide +kernel
theorem dX0_next_8 : decode cX0_next 8 = .ok (.sipush 12345, 3) := by decide +kernel
theorem dX0_next_11 : decode cX0_next 11 = .ok (.iadd, 1) := by decide +kernel
theorem dX0_next_12 : decode cX0_next 12 = .ok (.putfield 7, 3) := by decide +kernel
theorem dX0_next_15 : decode cX0_next 15 = .ok (.iload_n 1, 1) := by decide +kernel
theorem dX0_next_16 : decode cX0_next 16 = .ok (.ifCond .le 15, 3) := by decide +kernel
theorem dX0_next_19 : decode cX0_next 19 = .ok (.aload_n 0, 1) := by decide +kernel
theorem dX0_next_20 : decode cX0_next 20 = .ok (.getfield 7, 3) := by decide +kernel
theorem dX0_next_23 : decode cX0_next 23 = .ok (.bipush 8, 2) := by decide +kernel
theorem dX0_next_25 : decode cX0_next 25 = .ok (.iushr, 1) := by decide +kernel
theorem dX0_next_26 : decode cX0_next 26 = .ok (.iload_n 1, 1) := by decide +kernel
theorem dX0_next_27 : decode cX0_next 27 = .ok (.irem, 1) := by decide +kernel
theorem dX0_next_28 : decode cX0_next 28 = .ok (.goto 4, 3) := by decide +kernel
theorem dX0_next_31 : decode cX0_next 31 = .ok (.iconst 0, 1) := by decide +kernel
theorem dX0_next_32 : decode cX0_next 32 = .ok (.ireturn, 1) := by decide +kernel
theorem dX10_findMondays_0 : decode cX10_findMondays 0 = .ok (.aload_n 0, 1) := by decide +kernel
theorem dX10_findMondays_1 : decode cX10_findMondays 1 = .ok (.iconst 0, 1) := by decide +kernel
theorem dX10_findMondays_2 : decode cX10_findMondays 2 = .ok (.putfield 26, 3) := by decide +kernel
theorem dX10_findMondays_5 : decode cX10_findMondays 5 = .ok (.aload_n 0, 1) := by decide +kernel
theorem dX10_findMondays_6 : decode cX10_findMondays 6 = .ok (.invokevirtual 30, 3) := by decide +kernel
theorem dX10_findMondays_9 : decode cX10_findMondays 9 = .ok (.ifCond .ne 5, 3) := by decide +kernel
theorem dX10_findMondays_12 : decode cX10_findMondays 12 = .ok (.iconst (-1), 1) := by decide +kernel
theorem dX10_findMondays_13 : decode cX10_findMondays 13 = .ok (.ireturn, 1) := by decide +kernel
theorem dX10_findMondays_14 : decode cX10_findMondays 14 = .ok (.iconst 0, 1) := by decide +kernel
theorem dX10_findMondays_15 : decode cX10_findMondays 15 = .ok (.istore_n 1, 1) := by decide +kernel
theorem dX10_findMondays_16 : decode cX10_findMondays 16 = .ok (.iconst 0, 1) := by decide +kernel
theorem dX10_findMondays_17 : decode cX10_findMondays 17 = .ok (.istore_n 2, 1) := by decide +kernel
theorem dX10_findMondays_18 : decode cX10_findMondays 18 = .ok (.iload_n 2, 1) := by decide +kernel
theorem dX10_findMondays_19 : decode cX10_findMondays 19 = .ok (.aload_n 0, 1) := by decide +kernel
theorem dX10_findMondays_20 : decode cX10_findMondays 20 = .ok (.getfield 18, 3) := by decide +kernel
theorem dX10_findMondays_23 : decode cX10_findMondays 23 = .ok (.getfield 34, 3) := by decide +kernel
theorem dX10_findMondays_26 : decode cX10_findMondays 26 = .ok (.if_icmp .ge 19, 3) := by decide +kernel
theorem dX10_findMondays_29 : decode cX10_findMondays 29 = .ok (.iload_n 1, 1) := by decide +kernel
theorem dX10_findMondays_30 : decode cX10_findMondays 30 = .ok (.aload_n 0, 1) := by decide +kernel
theorem dX10_findMondays_31 : decode cX10_findMondays 31 = .ok (.iload_n 2, 1) := by decide +kernel
theorem dX10_findMondays_32 : decode cX10_findMondays 32 = .ok (.invokevirtual 40, 3) := by decide +kernel
theorem dX10_findMondays_35 : decode cX10_findMondays 35 = .ok (.invokestatic 44, 3) := by decide +kernel
theorem dX10_findMondays_38 : decode cX10_findMondays 38 = .ok (.istore_n 1, 1) := by decide +kernel
theorem dX10_findMondays_39 : decode cX10_findMondays 39 = .ok (.iinc 2 1, 3) := by decide +kernel
theorem dX10_findMondays_42 : decode cX10_findMondays 42 = .ok (.goto (-24), 3) := by decide +kernel
theorem dX10_findMondays_45 : decode cX10_findMondays 45 = .ok (.iload_n 1, 1) := by decide +kernel
theorem dX10_findMondays_46 : decode cX10_findMondays 46 = .ok (.iconst 1, 1) := by decide +kernel
theorem dX10_findMondays_47 : decode cX10_findMondays 47 = .ok (.if_icmp .ne 7, 3) := by decide +kernel
theorem dX10_findMondays_50 : decode cX10_findMondays 50 = .ok (.aload_n 0, 1) := by decide +kernel
theorem dX10_findMondays_51 : decode cX10_findMondays 51 = .ok (.invokevirtual 50, 3) := by decide +kernel
theorem dX10_findMondays_54 : decode cX10_findMondays 54 = .ok (.iload_n 1, 1) := by decide +kernel
theorem dX10_findMondays_55 : decode cX10_findMondays 55 = .ok (.ireturn, 1) := by decide +kernel
theorem dX10_findSwaps_0 : decode cX10_findSwaps 0 = .ok (.aload_n 0, 1) := by decide +kernel
theorem dX10_findSwaps_1 : decode cX10_findSwaps 1 = .ok (.invokevirtual 30, 3) := by decide +kernel
theorem dX10_findSwaps_4 : decode cX10_findSwaps 4 = .ok (.ifCond .ne 5, 3) := by decide +kernel
theorem dX10_findSwaps_7 : decode cX10_findSwaps 7 = .ok (.iconst (-1), 1) := by decide +kernel
theorem dX10_findSwaps_8 : decode cX10_findSwaps 8 = .ok (.ireturn, 1) := by decide +kernel
theorem dX10_findSwaps_9 : decode cX10_findSwaps 9 = .ok (.iconst 0, 1) := by decide +kernel
theorem dX10_findSwaps_10 : decode cX10_findSwaps 10 = .ok (.istore_n 1, 1) := by decide +kernel
theorem dX10_findSwaps_11 : decode cX10_findSwaps 11 = .ok (.iconst 0, 1) := by decide +kernel
theorem dX10_findSwaps_12 : decode cX10_findSwaps 12 = .ok (.istore_n 2, 1) := by decide +kernel
theorem dX10_findSwaps_13 : decode cX10_findSwaps 13 = .ok (.iload_n 2, 1) := by decide +kernel
theorem dX10_findSwaps_14 : decode cX10_findSwaps 14 = .ok (.aload_n 0, 1) := by decide +kernel
theorem dX10_findSwaps_15 : decode cX10_findSwaps 15 = .ok (.getfield 18, 3) := by decide +kernel
theorem dX10_findSwaps_18 : decode cX10_findSwaps 18 = .ok (.getfield 34, 3) := by decide +kernel
theorem dX10_findSwaps_21 : decode cX10_findSwaps 21 = .ok (.if_icmp .ge 30, 3) := by decide +kernel
theorem dX10_findSwaps_24 : decode cX10_findSwaps 24 = .ok (.aload_n 0, 1) := by decide +kernel
theorem dX10_findSwaps_25 : decode cX10_findSwaps 25 = .ok (.getfield 9, 3) := by decide +kernel
theorem dX10_findSwaps_28 : decode cX10_findSwaps 28 = .ok (.iload_n 2, 1) := by decide +kernel
theorem dX10_findSwaps_29 : decode cX10_findSwaps 29 = .ok (.iaload, 1) := by decide +kernel
theorem dX10_findSwaps_30 : decode cX10_findSwaps 30 = .ok (.iconst (-1), 1) := by decide +kernel
theorem dX10_findSwaps_31 : decode cX10_findSwaps 31 = .ok (.if_icmp .eq 14, 3) := by decide +kernel
theorem dX10_findSwaps_34 : decode cX10_findSwaps 34 = .ok (.aload_n 0, 1) := by decide +kernel
theorem dX10_findSwaps_35 : decode cX10_findSwaps 35 = .ok (.iload_n 2, 1) := by decide +kernel
theorem dX10_findSwaps_36 : decode cX10_findSwaps 36 = .ok (.invokevirtual 53, 3) := by decide +kernel
theorem dX10_findSwaps_39 : decode cX10_findSwaps 39 = .ok (.ifCond .ne 6, 3) := by decide +kernel
theorem dX10_findSwaps_42 : decode cX10_findSwaps 42 = .ok (.iinc 1 1, 3) := by decide +kernel
theorem dX10_findSwaps_45 : decode cX10_findSwaps 45 = .ok (.iinc 2 1, 3) := by decide +kernel
theorem dX10_findSwaps_48 : decode cX10_findSwaps 48 = .ok (.goto (-35), 3) := by decide +kernel
theorem dX10_findSwaps_51 : decode cX10_findSwaps 51 = .ok (.iload_n 1, 1) := by decide +kernel
theorem dX10_findSwaps_52 : decode cX10_findSwaps 52 = .ok (.ireturn, 1) := by decide +kernel
theorem dX10_isFirstOfRing_0 : decode cX10_isFirstOfRing 0 = .ok (.aload_n 0, 1) := by decide +kernel
theorem dX10_isFirstOfRing_1 : decode cX10_isFirstOfRing 1 = .ok (.getfield 9, 3) := by decide +kernel
theorem dX10_isFirstOfRing_4 : decode cX10_isFirstOfRing 4 = .ok (.iload_n 1, 1) := by decide +kernel
theorem dX10_isFirstOfRing_5 : decode cX10_isFirstOfRing 5 = .ok (.iaload, 1) := by decide +kernel
theorem dX10_isFirstOfRing_6 : decode cX10_isFirstOfRing 6 = .ok (.istore_n 2, 1) := by decide +kernel
theorem dX10_isFirstOfRing_7 : decode cX10_isFirstOfRing 7 = .ok (.iconst 0, 1) := by decide +kernel
theorem dX10_isFirstOfRing_8 : decode cX10_isFirstOfRing 8 = .ok (.istore_n 3, 1) := by decide +kernel
theorem dX10_isFirstOfRing_9 : decode cX10_isFirstOfRing 9 = .ok (.iload_n 3, 1) := by decide +kernel
theorem dX10_isFirstOfRing_10 : decode cX10_isFirstOfRing 10 = .ok (.bipush 9, 2) := by decide +kernel
theorem dX10_isFirstOfRing_12 : decode cX10_isFirstOfRing 12 = .ok (.if_icmp .ge 21, 3) := by decide +kernel
theorem dX10_isFirstOfRing_15 : decode cX10_isFirstOfRing 15 = .ok (.iload_n 2, 1) := by decide +kernel
theorem dX10_isFirstOfRing_16 : decode cX10_isFirstOfRing 16 = .ok (.iload_n 1, 1) := by decide +kernel
theorem dX10_isFirstOfRing_17 : decode cX10_isFirstOfRing 17 = .ok (.if_icmp .le 16, 3) := by decide +kernel
theorem dX10_isFirstOfRing_20 : decode cX10_isFirstOfRing 20 = .ok (.aload_n 0, 1) := by decide +kernel
theorem dX10_isFirstOfRing_21 : decode cX10_isFirstOfRing 21 = .ok (.getfield 9, 3) := by decide +kernel
theorem dX10_isFirstOfRing_24 : decode cX10_isFirstOfRing 24 = .ok (.iload_n 2, 1) := by decide +kernel
theorem dX10_isFirstOfRing_25 : decode cX10_isFirstOfRing 25 = .ok (.iaload, 1) := by decide +kernel
theorem dX10_isFirstOfRing_26 : decode cX10_isFirstOfRing 26 = .ok (.istore_n 2, 1) := by decide +kernel
theorem dX10_isFirstOfRing_27 : decode cX10_isFirstOfRing 27 = .ok (.iinc 3 1, 3) := by decide +kernel
theorem dX10_isFirstOfRing_30 : decode cX10_isFirstOfRing 30 = .ok (.goto (-21), 3) := by decide +kernel
theorem dX10_isFirstOfRing_33 : decode cX10_isFirstOfRing 33 = .ok (.iload_n 2, 1) := by decide +kernel
theorem dX10_isFirstOfRing_34 : decode cX10_isFirstOfRing 34 = .ok (.iload_n 1, 1) := by decide +kernel
theorem dX10_isFirstOfRing_35 : decode cX10_isFirstOfRing 35 = .ok (.if_icmp .ne 7, 3) := by decide +kernel
theorem dX10_isFirstOfRing_38 : decode cX10_isFirstOfRing 38 = .ok (.iconst 1, 1) := by decide +kernel
theorem dX10_isFirstOfRing_39 : decode cX10_isFirstOfRing 39 = .ok (.goto 4, 3) := by decide +kernel
theorem dX10_isFirstOfRing_42 : decode cX10_isFirstOfRing 42 = .ok (.iconst 0, 1) := by decide +kernel
theorem dX10_isFirstOfRing_43 : decode cX10_isFirstOfRing 43 = .ok (.ireturn, 1) := by decide +kernel
theorem dX10_mondaysFor_0 : decode cX10_mondaysFor 0 = .ok (.aload_n 0, 1) := by decide +kernel
theorem dX10_mondaysFor_1 : decode cX10_mondaysFor 1 = .ok (.getfield 9, 3) := by decide +kernel
theorem dX10_mondaysFor_4 : decode cX10_mondaysFor 4 = .ok (.iload_n 1, 1) := by decide +kernel
theorem dX10_mondaysFor_5 : decode cX10_mondaysFor 5 = .ok (.iaload, 1) := by decide +kernel
theorem dX10_mondaysFor_6 : decode cX10_mondaysFor 6 = .ok (.istore_n 2, 1) := by decide +kernel
theorem dX10_mondaysFor_7 : decode cX10_mondaysFor 7 = .ok (.iload_n 2, 1) := by decide +kernel
theorem dX10_mondaysFor_8 : decode cX10_mondaysFor 8 = .ok (.iconst (-1), 1) := by decide +kernel
theorem dX10_mondaysFor_9 : decode cX10_mondaysFor 9 = .ok (.if_icmp .eq 8, 3) := by decide +kernel
theorem dX10_mondaysFor_12 : decode cX10_mondaysFor 12 = .ok (.iload_n 2, 1) := by decide +kernel
theorem dX10_mondaysFor_13 : decode cX10_mondaysFor 13 = .ok (.iload_n 1, 1) := by decide +kernel
theorem dX10_mondaysFor_14 : decode cX10_mondaysFor 14 = .ok (.if_icmp .ne 5, 3) := by decide +kernel
theorem dX10_mondaysFor_17 : decode cX10_mondaysFor 17 = .ok (.iconst 0, 1) := by decide +kernel
theorem dX10_mondaysFor_18 : decode cX10_mondaysFor 18 = .ok (.ireturn, 1) := by decide +kernel
theorem dX10_mondaysFor_19 : decode cX10_mondaysFor 19 = .ok (.aload_n 0, 1) := by decide +kernel
theorem dX10_mondaysFor_20 : decode cX10_mondaysFor 20 = .ok (.getfield 9, 3) := by decide +kernel
theorem dX10_mondaysFor_23 : decode cX10_mondaysFor 23 = .ok (.iload_n 2, 1) := by decide +kernel
theorem dX10_mondaysFor_24 : decode cX10_mondaysFor 24 = .ok (.iaload, 1) := by decide +kernel
theorem dX10_mondaysFor_25 : decode cX10_mondaysFor 25 = .ok (.iconst (-1), 1) := by decide +kernel
theorem dX10_mondaysFor_26 : decode cX10_mondaysFor 26 = .ok (.if_icmp .eq 13, 3) := by decide +kernel
theorem dX10_mondaysFor_29 : decode cX10_mondaysFor 29 = .ok (.aload_n 0, 1) := by decide +kernel
theorem dX10_mondaysFor_30 : decode cX10_mondaysFor 30 = .ok (.getfield 9, 3) := by decide +kernel
theorem dX10_mondaysFor_33 : decode cX10_mondaysFor 33 = .ok (.iload_n 2, 1) := by decide +kernel
theorem dX10_mondaysFor_34 : decode cX10_mondaysFor 34 = .ok (.iaload, 1) := by decide +kernel
theorem dX10_mondaysFor_35 : decode cX10_mondaysFor 35 = .ok (.iload_n 1, 1) := by decide +kernel
theorem dX10_mondaysFor_36 : decode cX10_mondaysFor 36 = .ok (.if_icmp .ne 7, 3) := by decide +kernel
theorem dX10_mondaysFor_39 : decode cX10_mondaysFor 39 = .ok (.iconst 1, 1) := by decide +kernel
theorem dX10_mondaysFor_40 : decode cX10_mondaysFor 40 = .ok (.goto 4, 3) := by decide +kernel
theorem dX10_mondaysFor_43 : decode cX10_mondaysFor 43 = .ok (.iconst 2, 1) := by decide +kernel
theorem dX10_mondaysFor_44 : decode cX10_mondaysFor 44 = .ok (.ireturn, 1) := by decide +kernel
theorem dX10_pair_0 : decode cX10_pair 0 = .ok (.aload_n 0, 1) := by decide +kernel
theorem dX10_pair_1 : decode cX10_pair 1 = .ok (.iconst 1, 1) := by decide +kernel
theorem dX10_pair_2 : decode cX10_pair 2 = .ok (.putfield 26, 3) := by decide +kernel
theorem dX10_pair_5 : decode cX10_pair 5 = .ok (.iconst 0, 1) := by decide +kernel
theorem dX10_pair_6 : decode cX10_pair 6 = .ok (.istore_n 1, 1) := by decide +kernel
theorem dX10_pair_7 : decode cX10_pair 7 = .ok (.iload_n 1, 1) := by decide +kernel
theorem dX10_pair_8 : decode cX10_pair 8 = .ok (.bipush 9, 2) := by decide +kernel
theorem dX10_pair_10 : decode cX10_pair 10 = .ok (.if_icmp .ge 16, 3) := by decide +kernel
theorem dX10_pair_13 : decode cX10_pair 13 = .ok (.aload_n 0, 1) := by decide +kernel
theorem dX10_pair_14 : decode cX10_pair 14 = .ok (.getfield 15, 3) := by decide +kernel
theorem dX10_pair_17 : decode cX10_pair 17 = .ok (.iload_n 1, 1) := by decide +kernel
theorem dX10_pair_18 : decode cX10_pair 18 = .ok (.iconst (-1), 1) := by decide +kernel
theorem dX10_pair_19 : decode cX10_pair 19 = .ok (.iastore, 1) := by decide +kernel
theorem dX10_pair_20 : decode cX10_pair 20 = .ok (.iinc 1 1, 3) := by decide +kernel
theorem dX10_pair_23 : decode cX10_pair 23 = .ok (.goto (-16), 3) := by decide +kernel
theorem dX10_pair_26 : decode cX10_pair 26 = .ok (.iconst 0, 1) := by decide +kernel
theorem dX10_pair_27 : decode cX10_pair 27 = .ok (.istore_n 1, 1) := by decide +kernel
theorem dX10_pair_28 : decode cX10_pair 28 = .ok (.iload_n 1, 1) := by decide +kernel
theorem dX10_pair_29 : decode cX10_pair 29 = .ok (.aload_n 0, 1) := by decide +kernel
theorem dX10_pair_30 : decode cX10_pair 30 = .ok (.getfield 18, 3) := by decide +kernel
theorem dX10_pair_33 : decode cX10_pair 33 = .ok (.getfield 34, 3) := by decide +kernel
theorem dX10_pair_36 : decode cX10_pair 36 = .ok (.if_icmp .ge 40, 3) := by decide +kernel
theorem dX10_pair_39 : decode cX10_pair 39 = .ok (.aload_n 0, 1) := by decide +kernel
theorem dX10_pair_40 : decode cX10_pair 40 = .ok (.getfield 9, 3) := by decide +kernel
theorem dX10_pair_43 : decode cX10_pair 43 = .ok (.iload_n 1, 1) := by decide +kernel
theorem dX10_pair_44 : decode cX10_pair 44 = .ok (.iaload, 1) := by decide +kernel
theorem dX10_pair_45 : decode cX10_pair 45 = .ok (.istore_n 2, 1) := by decide +kernel
theorem dX10_pair_46 : decode cX10_pair 46 = .ok (.iload_n 2, 1) := by decide +kernel
theorem dX10_pair_47 : decode cX10_pair 47 = .ok (.iconst (-1), 1) := by decide +kernel
theorem dX10_pair_48 : decode cX10_pair 48 = .ok (.if_icmp .eq 22, 3) := by decide +kernel
theorem dX10_pair_51 : decode cX10_pair 51 = .ok (.iload_n 2, 1) := by decide +kernel
theorem dX10_pair_52 : decode cX10_pair 52 = .ok (.iload_n 1, 1) := by decide +kernel
theorem dX10_pair_53 : decode cX10_pair 53 = .ok (.if_icmp .eq 17, 3) := by decide +kernel
theorem dX10_pair_56 : decode cX10_pair 56 = .ok (.aload_n 0, 1) := by decide +kernel
theorem dX10_pair_57 : decode cX10_pair 57 = .ok (.getfield 15, 3) := by decide +kernel
theorem dX10_pair_60 : decode cX10_pair 60 = .ok (.iload_n 1, 1) := by decide +kernel
theorem dX10_pair_61 : decode cX10_pair 61 = .ok (.iload_n 2, 1) := by decide +kernel
theorem dX10_pair_62 : decode cX10_pair 62 = .ok (.iastore, 1) := by decide +kernel
theorem dX10_pair_63 : decode cX10_pair 63 = .ok (.aload_n 0, 1) := by decide +kernel
theorem dX10_pair_64 : decode cX10_pair 64 = .ok (.getfield 15, 3) := by decide +kernel
theorem dX10_pair_67 : decode cX10_pair 67 = .ok (.iload_n 2, 1) := by decide +kernel
theorem dX10_pair_68 : decode cX10_pair 68 = .ok (.iload_n 1, 1) := by decide +kernel
theorem dX10_pair_69 : decode cX10_pair 69 = .ok (.iastore, 1) := by decide +kernel
theorem dX10_pair_70 : decode cX10_pair 70 = .ok (.iinc 1 1, 3) := by decide +kernel
theorem dX10_pair_73 : decode cX10_pair 73 = .ok (.goto (-45), 3) := by decide +kernel
theorem dX10_pair_76 : decode cX10_pair 76 = .ok (.return_, 1) := by decide +kernel
theorem dX10_partnerOf_0 : decode cX10_partnerOf 0 = .ok (.aload_n 0, 1) := by decide +kernel
theorem dX10_partnerOf_1 : decode cX10_partnerOf 1 = .ok (.getfield 26, 3) := by decide +kernel
theorem dX10_partnerOf_4 : decode cX10_partnerOf 4 = .ok (.ifCond .eq 22, 3) := by decide +kernel
theorem dX10_partnerOf_7 : decode cX10_partnerOf 7 = .ok (.iload_n 1, 1) := by decide +kernel
theorem dX10_partnerOf_8 : decode cX10_partnerOf 8 = .ok (.ifCond .lt 18, 3) := by decide +kernel
theorem dX10_partnerOf_11 : decode cX10_partnerOf 11 = .ok (.iload_n 1, 1) := by decide +kernel
theorem dX10_partnerOf_12 : decode cX10_partnerOf 12 = .ok (.bipush 9, 2) := by decide +kernel
theorem dX10_partnerOf_14 : decode cX10_partnerOf 14 = .ok (.if_icmp .ge 12, 3) := by decide +kernel
theorem dX10_partnerOf_17 : decode cX10_partnerOf 17 = .ok (.aload_n 0, 1) := by decide +kernel
theorem dX10_partnerOf_18 : decode cX10_partnerOf 18 = .ok (.getfield 15, 3) := by decide +kernel
theorem dX10_partnerOf_21 : decode cX10_partnerOf 21 = .ok (.iload_n 1, 1) := by decide +kernel
theorem dX10_partnerOf_22 : decode cX10_partnerOf 22 = .ok (.iaload, 1) := by decide +kernel
theorem dX10_partnerOf_23 : decode cX10_partnerOf 23 = .ok (.goto 4, 3) := by decide +kernel
theorem dX10_partnerOf_26 : decode cX10_partnerOf 26 = .ok (.iconst (-1), 1) := by decide +kernel
theorem dX10_partnerOf_27 : decode cX10_partnerOf 27 = .ok (.ireturn, 1) := by decide +kernel
theorem dX10_point_0 : decode cX10_point 0 = .ok (.iconst 0, 1) := by decide +kernel
theorem dX10_point_1 : decode cX10_point 1 = .ok (.istore_n 1, 1) := by decide +kernel
theorem dX10_point_2 : decode cX10_point 2 = .ok (.iconst 0, 1) := by decide +kernel
theorem dX10_point_3 : decode cX10_point 3 = .ok (.istore_n 2, 1) := by decide +kernel
theorem dX10_point_4 : decode cX10_point 4 = .ok (.iload_n 2, 1) := by decide +kernel
theorem dX10_point_5 : decode cX10_point 5 = .ok (.aload_n 0, 1) := by decide +kernel
theorem dX10_point_6 : decode cX10_point 6 = .ok (.getfield 18, 3) := by decide +kernel
theorem dX10_point_9 : decode cX10_point 9 = .ok (.getfield 34, 3) := by decide +kernel
theorem dX10_point_12 : decode cX10_point 12 = .ok (.if_icmp .ge 105, 3) := by decide +kernel
theorem dX10_point_15 : decode cX10_point 15 = .ok (.aload_n 0, 1) := by decide +kernel
theorem dX10_point_16 : decode cX10_point 16 = .ok (.getfield 9, 3) := by decide +kernel
theorem dX10_point_19 : decode cX10_point 19 = .ok (.iload_n 2, 1) := by decide +kernel
theorem dX10_point_20 : decode cX10_point 20 = .ok (.iconst (-1), 1) := by decide +kernel
theorem dX10_point_21 : decode cX10_point 21 = .ok (.iastore, 1) := by decide +kernel
theorem dX10_point_22 : decode cX10_point 22 = .ok (.aload_n 0, 1) := by decide +kernel
theorem dX10_point_23 : decode cX10_point 23 = .ok (.getfield 18, 3) := by decide +kernel
theorem dX10_point_26 : decode cX10_point 26 = .ok (.getfield 57, 3) := by decide +kernel
theorem dX10_point_29 : decode cX10_point 29 = .ok (.iload_n 2, 1) := by decide +kernel
theorem dX10_point_30 : decode cX10_point 30 = .ok (.iaload, 1) := by decide +kernel
theorem dX10_point_31 : decode cX10_point 31 = .ok (.istore_n 3, 1) := by decide +kernel
theorem dX10_point_32 : decode cX10_point 32 = .ok (.aload_n 0, 1) := by decide +kernel
theorem dX10_point_33 : decode cX10_point 33 = .ok (.getfield 22, 3) := by decide +kernel
theorem dX10_point_36 : decode cX10_point 36 = .ok (.iload_n 2, 1) := by decide +kernel
theorem dX10_point_37 : decode cX10_point 37 = .ok (.invokevirtual 60, 3) := by decide +kernel
theorem dX10_point_40 : decode cX10_point 40 = .ok (.ifCond .eq 71, 3) := by decide +kernel
theorem dX10_point_43 : decode cX10_point 43 = .ok (.aload_n 0, 1) := by decide +kernel
theorem dX10_point_44 : decode cX10_point 44 = .ok (.getfield 18, 3) := by decide +kernel
theorem dX10_point_47 : decode cX10_point 47 = .ok (.iload_n 3, 1) := by decide +kernel
theorem dX10_point_48 : decode cX10_point 48 = .ok (.invokevirtual 65, 3) := by decide +kernel
theorem dX10_point_51 : decode cX10_point 51 = .ok (.ifCond .eq 60, 3) := by decide +kernel
