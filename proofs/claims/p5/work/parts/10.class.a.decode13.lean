theorem dX7_isBorneAtFirst_0 : decode cX7_isBorneAtFirst 0 = .ok (.iconst 0, 1) := by decide +kernel
theorem dX7_isBorneAtFirst_1 : decode cX7_isBorneAtFirst 1 = .ok (.istore_n 2, 1) := by decide +kernel
theorem dX7_isBorneAtFirst_2 : decode cX7_isBorneAtFirst 2 = .ok (.iload_n 2, 1) := by decide +kernel
theorem dX7_isBorneAtFirst_3 : decode cX7_isBorneAtFirst 3 = .ok (.aload_n 0, 1) := by decide +kernel
theorem dX7_isBorneAtFirst_4 : decode cX7_isBorneAtFirst 4 = .ok (.getfield 47, 3) := by decide +kernel
theorem dX7_isBorneAtFirst_7 : decode cX7_isBorneAtFirst 7 = .ok (.if_icmp .ge 21, 3) := by decide +kernel
theorem dX7_isBorneAtFirst_10 : decode cX7_isBorneAtFirst 10 = .ok (.aload_n 0, 1) := by decide +kernel
theorem dX7_isBorneAtFirst_11 : decode cX7_isBorneAtFirst 11 = .ok (.getfield 31, 3) := by decide +kernel
theorem dX7_isBorneAtFirst_14 : decode cX7_isBorneAtFirst 14 = .ok (.iload_n 2, 1) := by decide +kernel
theorem dX7_isBorneAtFirst_15 : decode cX7_isBorneAtFirst 15 = .ok (.iaload, 1) := by decide +kernel
theorem dX7_isBorneAtFirst_16 : decode cX7_isBorneAtFirst 16 = .ok (.iload_n 1, 1) := by decide +kernel
theorem dX7_isBorneAtFirst_17 : decode cX7_isBorneAtFirst 17 = .ok (.if_icmp .ne 5, 3) := by decide +kernel
theorem dX7_isBorneAtFirst_20 : decode cX7_isBorneAtFirst 20 = .ok (.iconst 1, 1) := by decide +kernel
theorem dX7_isBorneAtFirst_21 : decode cX7_isBorneAtFirst 21 = .ok (.ireturn, 1) := by decide +kernel
theorem dX7_isBorneAtFirst_22 : decode cX7_isBorneAtFirst 22 = .ok (.iinc 2 1, 3) := by decide +kernel
theorem dX7_isBorneAtFirst_25 : decode cX7_isBorneAtFirst 25 = .ok (.goto (-23), 3) := by decide +kernel
theorem dX7_isBorneAtFirst_28 : decode cX7_isBorneAtFirst 28 = .ok (.iconst 0, 1) := by decide +kernel
theorem dX7_isBorneAtFirst_29 : decode cX7_isBorneAtFirst 29 = .ok (.ireturn, 1) := by decide +kernel
theorem dX7_isFeast_0 : decode cX7_isFeast 0 = .ok (.iload_n 1, 1) := by decide +kernel
theorem dX7_isFeast_1 : decode cX7_isFeast 1 = .ok (.ifCond .lt 35, 3) := by decide +kernel
theorem dX7_isFeast_4 : decode cX7_isFeast 4 = .ok (.iload_n 1, 1) := by decide +kernel
theorem dX7_isFeast_5 : decode cX7_isFeast 5 = .ok (.aload_n 0, 1) := by decide +kernel
theorem dX7_isFeast_6 : decode cX7_isFeast 6 = .ok (.getfield 43, 3) := by decide +kernel
theorem dX7_isFeast_9 : decode cX7_isFeast 9 = .ok (.if_icmp .ge 27, 3) := by decide +kernel
theorem dX7_isFeast_12 : decode cX7_isFeast 12 = .ok (.aload_n 0, 1) := by decide +kernel
theorem dX7_isFeast_13 : decode cX7_isFeast 13 = .ok (.getfield 22, 3) := by decide +kernel
theorem dX7_isFeast_16 : decode cX7_isFeast 16 = .ok (.iload_n 1, 1) := by decide +kernel
theorem dX7_isFeast_17 : decode cX7_isFeast 17 = .ok (.iaload, 1) := by decide +kernel
theorem dX7_isFeast_18 : decode cX7_isFeast 18 = .ok (.ifCond .le 18, 3) := by decide +kernel
theorem dX7_isFeast_21 : decode cX7_isFeast 21 = .ok (.iload_n 2, 1) := by decide +kernel
theorem dX7_isFeast_22 : decode cX7_isFeast 22 = .ok (.aload_n 0, 1) := by decide +kernel
theorem dX7_isFeast_23 : decode cX7_isFeast 23 = .ok (.getfield 22, 3) := by decide +kernel
theorem dX7_isFeast_26 : decode cX7_isFeast 26 = .ok (.iload_n 1, 1) := by decide +kernel
theorem dX7_isFeast_27 : decode cX7_isFeast 27 = .ok (.iaload, 1) := by decide +kernel
theorem dX7_isFeast_28 : decode cX7_isFeast 28 = .ok (.irem, 1) := by decide +kernel
theorem dX7_isFeast_29 : decode cX7_isFeast 29 = .ok (.ifCond .ne 7, 3) := by decide +kernel
theorem dX7_isFeast_32 : decode cX7_isFeast 32 = .ok (.iconst 1, 1) := by decide +kernel
theorem dX7_isFeast_33 : decode cX7_isFeast 33 = .ok (.goto 4, 3) := by decide +kernel
theorem dX7_isFeast_36 : decode cX7_isFeast 36 = .ok (.iconst 0, 1) := by decide +kernel
theorem dX7_isFeast_37 : decode cX7_isFeast 37 = .ok (.ireturn, 1) := by decide +kernel
theorem dX7_isName_0 : decode cX7_isName 0 = .ok (.iload_n 1, 1) := by decide +kernel
theorem dX7_isName_1 : decode cX7_isName 1 = .ok (.ifCond .lt 15, 3) := by decide +kernel
theorem dX7_isName_4 : decode cX7_isName 4 = .ok (.iload_n 1, 1) := by decide +kernel
theorem dX7_isName_5 : decode cX7_isName 5 = .ok (.aload_n 0, 1) := by decide +kernel
theorem dX7_isName_6 : decode cX7_isName 6 = .ok (.getfield 43, 3) := by decide +kernel
theorem dX7_isName_9 : decode cX7_isName 9 = .ok (.if_icmp .ge 7, 3) := by decide +kernel
theorem dX7_isName_12 : decode cX7_isName 12 = .ok (.iconst 1, 1) := by decide +kernel
theorem dX7_isName_13 : decode cX7_isName 13 = .ok (.goto 4, 3) := by decide +kernel
theorem dX7_isName_16 : decode cX7_isName 16 = .ok (.iconst 0, 1) := by decide +kernel
theorem dX7_isName_17 : decode cX7_isName 17 = .ok (.ireturn, 1) := by decide +kernel
theorem dX7_isSoul_0 : decode cX7_isSoul 0 = .ok (.iload_n 1, 1) := by decide +kernel
theorem dX7_isSoul_1 : decode cX7_isSoul 1 = .ok (.ifCond .lt 15, 3) := by decide +kernel
theorem dX7_isSoul_4 : decode cX7_isSoul 4 = .ok (.iload_n 1, 1) := by decide +kernel
theorem dX7_isSoul_5 : decode cX7_isSoul 5 = .ok (.aload_n 0, 1) := by decide +kernel
theorem dX7_isSoul_6 : decode cX7_isSoul 6 = .ok (.getfield 47, 3) := by decide +kernel
theorem dX7_isSoul_9 : decode cX7_isSoul 9 = .ok (.if_icmp .ge 7, 3) := by decide +kernel
theorem dX7_isSoul_12 : decode cX7_isSoul 12 = .ok (.iconst 1, 1) := by decide +kernel
theorem dX7_isSoul_13 : decode cX7_isSoul 13 = .ok (.goto 4, 3) := by decide +kernel
theorem dX7_isSoul_16 : decode cX7_isSoul 16 = .ok (.iconst 0, 1) := by decide +kernel
theorem dX7_isSoul_17 : decode cX7_isSoul 17 = .ok (.ireturn, 1) := by decide +kernel
theorem dX7_worthOf_0 : decode cX7_worthOf 0 = .ok (.aload_n 0, 1) := by decide +kernel
theorem dX7_worthOf_1 : decode cX7_worthOf 1 = .ok (.iload_n 1, 1) := by decide +kernel
theorem dX7_worthOf_2 : decode cX7_worthOf 2 = .ok (.invokevirtual 61, 3) := by decide +kernel
theorem dX7_worthOf_5 : decode cX7_worthOf 5 = .ok (.ifCond .eq 25, 3) := by decide +kernel
theorem dX7_worthOf_8 : decode cX7_worthOf 8 = .ok (.aload_n 0, 1) := by decide +kernel
theorem dX7_worthOf_9 : decode cX7_worthOf 9 = .ok (.iload_n 2, 1) := by decide +kernel
theorem dX7_worthOf_10 : decode cX7_worthOf 10 = .ok (.invokevirtual 65, 3) := by decide +kernel
theorem dX7_worthOf_13 : decode cX7_worthOf 13 = .ok (.ifCond .eq 17, 3) := by decide +kernel
theorem dX7_worthOf_16 : decode cX7_worthOf 16 = .ok (.aload_n 0, 1) := by decide +kernel
theorem dX7_worthOf_17 : decode cX7_worthOf 17 = .ok (.getfield 40, 3) := by decide +kernel
theorem dX7_worthOf_20 : decode cX7_worthOf 20 = .ok (.iload_n 1, 1) := by decide +kernel
theorem dX7_worthOf_21 : decode cX7_worthOf 21 = .ok (.bipush 9, 2) := by decide +kernel
theorem dX7_worthOf_23 : decode cX7_worthOf 23 = .ok (.imul, 1) := by decide +kernel
theorem dX7_worthOf_24 : decode cX7_worthOf 24 = .ok (.iload_n 2, 1) := by decide +kernel
theorem dX7_worthOf_25 : decode cX7_worthOf 25 = .ok (.iadd, 1) := by decide +kernel
theorem dX7_worthOf_26 : decode cX7_worthOf 26 = .ok (.iaload, 1) := by decide +kernel
theorem dX7_worthOf_27 : decode cX7_worthOf 27 = .ok (.goto 4, 3) := by decide +kernel
theorem dX7_worthOf_30 : decode cX7_worthOf 30 = .ok (.iconst 0, 1) := by decide +kernel
theorem dX7_worthOf_31 : decode cX7_worthOf 31 = .ok (.ireturn, 1) := by decide +kernel
theorem dX8_passNewWord_0 : decode cX8_passNewWord 0 = .ok (.aload_n 0, 1) := by decide +kernel
theorem dX8_passNewWord_1 : decode cX8_passNewWord 1 = .ok (.getfield 9, 3) := by decide +kernel
theorem dX8_passNewWord_4 : decode cX8_passNewWord 4 = .ok (.invokevirtual 168, 3) := by decide +kernel
theorem dX8_passNewWord_7 : decode cX8_passNewWord 7 = .ok (.ifCond .ne 12, 3) := by decide +kernel
theorem dX8_passNewWord_10 : decode cX8_passNewWord 10 = .ok (.aload_n 0, 1) := by decide +kernel
theorem dX8_passNewWord_11 : decode cX8_passNewWord 11 = .ok (.getfield 9, 3) := by decide +kernel
theorem dX8_passNewWord_14 : decode cX8_passNewWord 14 = .ok (.iconst 1, 1) := by decide +kernel
theorem dX8_passNewWord_15 : decode cX8_passNewWord 15 = .ok (.invokevirtual 92, 3) := by decide +kernel
theorem dX8_passNewWord_18 : decode cX8_passNewWord 18 = .ok (.ireturn, 1) := by decide +kernel
theorem dX8_passNewWord_19 : decode cX8_passNewWord 19 = .ok (.aload_n 0, 1) := by decide +kernel
theorem dX8_passNewWord_20 : decode cX8_passNewWord 20 = .ok (.getfield 15, 3) := by decide +kernel
theorem dX8_passNewWord_23 : decode cX8_passNewWord 23 = .ok (.aload_n 0, 1) := by decide +kernel
theorem dX8_passNewWord_24 : decode cX8_passNewWord 24 = .ok (.getfield 9, 3) := by decide +kernel
theorem dX8_passNewWord_27 : decode cX8_passNewWord 27 = .ok (.getfield 102, 3) := by decide +kernel
theorem dX8_passNewWord_30 : decode cX8_passNewWord 30 = .ok (.invokevirtual 131, 3) := by decide +kernel
theorem dX8_passNewWord_33 : decode cX8_passNewWord 33 = .ok (.iconst (-1), 1) := by decide +kernel
theorem dX8_passNewWord_34 : decode cX8_passNewWord 34 = .ok (.if_icmp .ne 21, 3) := by decide +kernel
theorem dX8_passNewWord_37 : decode cX8_passNewWord 37 = .ok (.aload_n 0, 1) := by decide +kernel
theorem dX8_passNewWord_38 : decode cX8_passNewWord 38 = .ok (.getfield 15, 3) := by decide +kernel
theorem dX8_passNewWord_41 : decode cX8_passNewWord 41 = .ok (.aload_n 0, 1) := by decide +kernel
theorem dX8_passNewWord_42 : decode cX8_passNewWord 42 = .ok (.getfield 9, 3) := by decide +kernel
theorem dX8_passNewWord_45 : decode cX8_passNewWord 45 = .ok (.getfield 102, 3) := by decide +kernel
theorem dX8_passNewWord_48 : decode cX8_passNewWord 48 = .ok (.invokevirtual 151, 3) := by decide +kernel
theorem dX8_passNewWord_51 : decode cX8_passNewWord 51 = .ok (.iconst (-1), 1) := by decide +kernel
theorem dX8_passNewWord_52 : decode cX8_passNewWord 52 = .ok (.if_icmp .eq 7, 3) := by decide +kernel
theorem dX8_passNewWord_55 : decode cX8_passNewWord 55 = .ok (.iconst 1, 1) := by decide +kernel
theorem dX8_passNewWord_56 : decode cX8_passNewWord 56 = .ok (.goto 4, 3) := by decide +kernel
theorem dX8_passNewWord_59 : decode cX8_passNewWord 59 = .ok (.iconst 0, 1) := by decide +kernel
theorem dX8_passNewWord_60 : decode cX8_passNewWord 60 = .ok (.istore_n 1, 1) := by decide +kernel
theorem dX8_passNewWord_61 : decode cX8_passNewWord 61 = .ok (.iload_n 1, 1) := by decide +kernel
theorem dX8_passNewWord_62 : decode cX8_passNewWord 62 = .ok (.ifCond .eq 14, 3) := by decide +kernel
theorem dX8_passNewWord_65 : decode cX8_passNewWord 65 = .ok (.aload_n 0, 1) := by decide +kernel
theorem dX8_passNewWord_66 : decode cX8_passNewWord 66 = .ok (.getfield 9, 3) := by decide +kernel
theorem dX8_passNewWord_69 : decode cX8_passNewWord 69 = .ok (.iconst 3, 1) := by decide +kernel
theorem dX8_passNewWord_70 : decode cX8_passNewWord 70 = .ok (.invokevirtual 92, 3) := by decide +kernel
theorem dX8_passNewWord_73 : decode cX8_passNewWord 73 = .ok (.goto 10, 3) := by decide +kernel
theorem dX8_passNewWord_76 : decode cX8_passNewWord 76 = .ok (.aload_n 0, 1) := by decide +kernel
theorem dX8_passNewWord_77 : decode cX8_passNewWord 77 = .ok (.getfield 9, 3) := by decide +kernel
theorem dX8_passNewWord_80 : decode cX8_passNewWord 80 = .ok (.invokevirtual 56, 3) := by decide +kernel
theorem dX8_passNewWord_83 : decode cX8_passNewWord 83 = .ok (.ireturn, 1) := by decide +kernel
theorem dX8_passOnce_0 : decode cX8_passOnce 0 = .ok (.aload_n 0, 1) := by decide +kernel
theorem dX8_passOnce_1 : decode cX8_passOnce 1 = .ok (.getfield 9, 3) := by decide +kernel
theorem dX8_passOnce_4 : decode cX8_passOnce 4 = .ok (.getfield 34, 3) := by decide +kernel
theorem dX8_passOnce_7 : decode cX8_passOnce 7 = .ok (.iconst 1, 1) := by decide +kernel
theorem dX8_passOnce_8 : decode cX8_passOnce 8 = .ok (.if_icmp .ne 17, 3) := by decide +kernel
theorem dX8_passOnce_11 : decode cX8_passOnce 11 = .ok (.iload_n 1, 1) := by decide +kernel
theorem dX8_passOnce_12 : decode cX8_passOnce 12 = .ok (.ifCond .lt 13, 3) := by decide +kernel
theorem dX8_passOnce_15 : decode cX8_passOnce 15 = .ok (.iload_n 1, 1) := by decide +kernel
theorem dX8_passOnce_16 : decode cX8_passOnce 16 = .ok (.aload_n 2, 1) := by decide +kernel
theorem dX8_passOnce_17 : decode cX8_passOnce 17 = .ok (.arraylength, 1) := by decide +kernel
theorem dX8_passOnce_18 : decode cX8_passOnce 18 = .ok (.if_icmp .ge 7, 3) := by decide +kernel
theorem dX8_passOnce_21 : decode cX8_passOnce 21 = .ok (.iconst 1, 1) := by decide +kernel
theorem dX8_passOnce_22 : decode cX8_passOnce 22 = .ok (.goto 4, 3) := by decide +kernel
theorem dX8_passOnce_25 : decode cX8_passOnce 25 = .ok (.iconst 0, 1) := by decide +kernel
theorem dX8_passOnce_26 : decode cX8_passOnce 26 = .ok (.istore_n 3, 1) := by decide +kernel
theorem dX8_passOnce_27 : decode cX8_passOnce 27 = .ok (.iload_n 3, 1) := by decide +kernel
theorem dX8_passOnce_28 : decode cX8_passOnce 28 = .ok (.ifCond .eq 19, 3) := by decide +kernel
theorem dX8_passOnce_31 : decode cX8_passOnce 31 = .ok (.aload_n 2, 1) := by decide +kernel
theorem dX8_passOnce_32 : decode cX8_passOnce 32 = .ok (.iload_n 1, 1) := by decide +kernel
theorem dX8_passOnce_33 : decode cX8_passOnce 33 = .ok (.iaload, 1) := by decide +kernel
theorem dX8_passOnce_34 : decode cX8_passOnce 34 = .ok (.iconst (-1), 1) := by decide +kernel
theorem dX8_passOnce_35 : decode cX8_passOnce 35 = .ok (.if_icmp .eq 12, 3) := by decide +kernel
theorem dX8_passOnce_38 : decode cX8_passOnce 38 = .ok (.aload_n 0, 1) := by decide +kernel
theorem dX8_passOnce_39 : decode cX8_passOnce 39 = .ok (.getfield 9, 3) := by decide +kernel
theorem dX8_passOnce_42 : decode cX8_passOnce 42 = .ok (.iconst 3, 1) := by decide +kernel
theorem dX8_passOnce_43 : decode cX8_passOnce 43 = .ok (.invokevirtual 92, 3) := by decide +kernel
theorem dX8_passOnce_46 : decode cX8_passOnce 46 = .ok (.ireturn, 1) := by decide +kernel
theorem dX8_passOnce_47 : decode cX8_passOnce 47 = .ok (.aload_n 0, 1) := by decide +kernel
theorem dX8_passOnce_48 : decode cX8_passOnce 48 = .ok (.getfield 9, 3) := by decide +kernel
theorem dX8_passOnce_51 : decode cX8_passOnce 51 = .ok (.iload_n 1, 1) := by decide +kernel
theorem dX8_passOnce_52 : decode cX8_passOnce 52 = .ok (.invokevirtual 138, 3) := by decide +kernel
theorem dX8_passOnce_55 : decode cX8_passOnce 55 = .ok (.ireturn, 1) := by decide +kernel
theorem dX8_read_0 : decode cX8_read 0 = .ok (.aload_n 0, 1) := by decide +kernel
theorem dX8_read_1 : decode cX8_read 1 = .ok (.getfield 15, 3) := by decide +kernel
theorem dX8_read_4 : decode cX8_read 4 = .ok (.invokevirtual 19, 3) := by decide +kernel
theorem dX8_read_7 : decode cX8_read 7 = .ok (.aload_n 0, 1) := by decide +kernel
theorem dX8_read_8 : decode cX8_read 8 = .ok (.getfield 9, 3) := by decide +kernel
theorem dX8_read_11 : decode cX8_read 11 = .ok (.sipush 900, 3) := by decide +kernel
theorem dX8_read_14 : decode cX8_read 14 = .ok (.invokevirtual 24, 3) := by decide +kernel
theorem dX8_read_17 : decode cX8_read 17 = .ok (.aload_n 0, 1) := by decide +kernel
theorem dX8_read_18 : decode cX8_read 18 = .ok (.iconst 0, 1) := by decide +kernel
theorem dX8_read_19 : decode cX8_read 19 = .ok (.putfield 30, 3) := by decide +kernel
theorem dX8_read_22 : decode cX8_read 22 = .ok (.aload_n 0, 1) := by decide +kernel
theorem dX8_read_23 : decode cX8_read 23 = .ok (.getfield 30, 3) := by decide +kernel
theorem dX8_read_26 : decode cX8_read 26 = .ok (.sipush 900, 3) := by decide +kernel
theorem dX8_read_29 : decode cX8_read 29 = .ok (.if_icmp .ge 47, 3) := by decide +kernel
theorem dX8_read_32 : decode cX8_read 32 = .ok (.aload_n 0, 1) := by decide +kernel
theorem dX8_read_33 : decode cX8_read 33 = .ok (.getfield 9, 3) := by decide +kernel
theorem dX8_read_36 : decode cX8_read 36 = .ok (.getfield 34, 3) := by decide +kernel
theorem dX8_read_39 : decode cX8_read 39 = .ok (.ifCond .eq 37, 3) := by decide +kernel
theorem dX8_read_42 : decode cX8_read 42 = .ok (.aload_n 0, 1) := by decide +kernel
theorem dX8_read_43 : decode cX8_read 43 = .ok (.invokevirtual 37, 3) := by decide +kernel
theorem dX8_read_46 : decode cX8_read 46 = .ok (.ifCond .eq 15, 3) := by decide +kernel
theorem dX8_read_49 : decode cX8_read 49 = .ok (.aload_n 0, 1) := by decide +kernel
theorem dX8_read_50 : decode cX8_read 50 = .ok (.getfield 9, 3) := by decide +kernel
theorem dX8_read_53 : decode cX8_read 53 = .ok (.bipush 59, 2) := by decide +kernel
theorem dX8_read_55 : decode cX8_read 55 = .ok (.invokevirtual 41, 3) := by decide +kernel
theorem dX8_read_58 : decode cX8_read 58 = .ok (.ifCond .ne 5, 3) := by decide +kernel
theorem dX8_read_61 : decode cX8_read 61 = .ok (.iconst 0, 1) := by decide +kernel
theorem dX8_read_62 : decode cX8_read 62 = .ok (.ireturn, 1) := by decide +kernel
theorem dX8_read_63 : decode cX8_read 63 = .ok (.aload_n 0, 1) := by decide +kernel
theorem dX8_read_64 : decode cX8_read 64 = .ok (.dup, 1) := by decide +kernel
theorem dX8_read_65 : decode cX8_read 65 = .ok (.getfield 30, 3) := by decide +kernel
theorem dX8_read_68 : decode cX8_read 68 = .ok (.iconst 1, 1) := by decide +kernel
theorem dX8_read_69 : decode cX8_read 69 = .ok (.iadd, 1) := by decide +kernel
theorem dX8_read_70 : decode cX8_read 70 = .ok (.putfield 30, 3) := by decide +kernel
theorem dX8_read_73 : decode cX8_read 73 = .ok (.goto (-51), 3) := by decide +kernel
theorem dX8_read_76 : decode cX8_read 76 = .ok (.iconst 1, 1) := by decide +kernel
theorem dX8_read_77 : decode cX8_read 77 = .ok (.ireturn, 1) := by decide +kernel
theorem dX8_readFirstName_0 : decode cX8_readFirstName 0 = .ok (.aload_n 0, 1) := by decide +kernel
theorem dX8_readFirstName_1 : decode cX8_readFirstName 1 = .ok (.getfield 15, 3) := by decide +kernel
theorem dX8_readFirstName_4 : decode cX8_readFirstName 4 = .ok (.aload_n 0, 1) := by decide +kernel
theorem dX8_readFirstName_5 : decode cX8_readFirstName 5 = .ok (.getfield 9, 3) := by decide +kernel
theorem dX8_readFirstName_8 : decode cX8_readFirstName 8 = .ok (.getfield 102, 3) := by decide +kernel
theorem dX8_readFirstName_11 : decode cX8_readFirstName 11 = .ok (.invokevirtual 131, 3) := by decide +kernel
theorem dX8_readFirstName_14 : decode cX8_readFirstName 14 = .ok (.istore_n 2, 1) := by decide +kernel
theorem dX8_readFirstName_15 : decode cX8_readFirstName 15 = .ok (.aload_n 0, 1) := by decide +kernel
theorem dX8_readFirstName_16 : decode cX8_readFirstName 16 = .ok (.getfield 9, 3) := by decide +kernel
theorem dX8_readFirstName_19 : decode cX8_readFirstName 19 = .ok (.getfield 34, 3) := by decide +kernel
theorem dX8_readFirstName_22 : decode cX8_readFirstName 22 = .ok (.iconst 1, 1) := by decide +kernel
theorem dX8_readFirstName_23 : decode cX8_readFirstName 23 = .ok (.if_icmp .ne 28, 3) := by decide +kernel
theorem dX8_readFirstName_26 : decode cX8_readFirstName 26 = .ok (.iload_n 2, 1) := by decide +kernel
theorem dX8_readFirstName_27 : decode cX8_readFirstName 27 = .ok (.iconst (-1), 1) := by decide +kernel
theorem dX8_readFirstName_28 : decode cX8_readFirstName 28 = .ok (.if_icmp .eq 23, 3) := by decide +kernel
theorem dX8_readFirstName_31 : decode cX8_readFirstName 31 = .ok (.aload_n 0, 1) := by decide +kernel
theorem dX8_readFirstName_32 : decode cX8_readFirstName 32 = .ok (.getfield 15, 3) := by decide +kernel
theorem dX8_readFirstName_35 : decode cX8_readFirstName 35 = .ok (.iload_n 2, 1) := by decide +kernel
theorem dX8_readFirstName_36 : decode cX8_readFirstName 36 = .ok (.invokevirtual 135, 3) := by decide +kernel
theorem dX8_readFirstName_39 : decode cX8_readFirstName 39 = .ok (.ifCond .eq 12, 3) := by decide +kernel
theorem dX8_readFirstName_42 : decode cX8_readFirstName 42 = .ok (.aload_n 0, 1) := by decide +kernel
theorem dX8_readFirstName_43 : decode cX8_readFirstName 43 = .ok (.getfield 9, 3) := by decide +kernel
theorem dX8_readFirstName_46 : decode cX8_readFirstName 46 = .ok (.iconst 3, 1) := by decide +kernel
theorem dX8_readFirstName_47 : decode cX8_readFirstName 47 = .ok (.invokevirtual 92, 3) := by decide +kernel
theorem dX8_readFirstName_50 : decode cX8_readFirstName 50 = .ok (.ireturn, 1) := by decide +kernel
theorem dX8_readFirstName_51 : decode cX8_readFirstName 51 = .ok (.aload_n 0, 1) := by decide +kernel
theorem dX8_readFirstName_52 : decode cX8_readFirstName 52 = .ok (.getfield 9, 3) := by decide +kernel
theorem dX8_readFirstName_55 : decode cX8_readFirstName 55 = .ok (.iload_n 2, 1) := by decide +kernel
theorem dX8_readFirstName_56 : decode cX8_readFirstName 56 = .ok (.invokevirtual 138, 3) := by decide +kernel
theorem dX8_readFirstName_59 : decode cX8_readFirstName 59 = .ok (.ifCond .eq 14, 3) := by decide +kernel
theorem dX8_readFirstName_62 : decode cX8_readFirstName 62 = .ok (.aload_n 0, 1) := by decide +kernel
theorem dX8_readFirstName_63 : decode cX8_readFirstName 63 = .ok (.getfield 15, 3) := by decide +kernel
theorem dX8_readFirstName_66 : decode cX8_readFirstName 66 = .ok (.iload_n 1, 1) := by decide +kernel
theorem dX8_readFirstName_67 : decode cX8_readFirstName 67 = .ok (.invokevirtual 141, 3) := by decide +kernel
theorem dX8_readFirstName_70 : decode cX8_readFirstName 70 = .ok (.ifCond .ne 5, 3) := by decide +kernel
theorem dX8_readFirstName_73 : decode cX8_readFirstName 73 = .ok (.iconst 0, 1) := by decide +kernel
theorem dX8_readFirstName_74 : decode cX8_readFirstName 74 = .ok (.ireturn, 1) := by decide +kernel
theorem dX8_readFirstName_75 : decode cX8_readFirstName 75 = .ok (.aload_n 0, 1) := by decide +kernel
theorem dX8_readFirstName_76 : decode cX8_readFirstName 76 = .ok (.getfield 15, 3) := by decide +kernel
theorem dX8_readFirstName_79 : decode cX8_readFirstName 79 = .ok (.getfield 144, 3) := by decide +kernel
theorem dX8_readFirstName_82 : decode cX8_readFirstName 82 = .ok (.iload_n 1, 1) := by decide +kernel
theorem dX8_readFirstName_83 : decode cX8_readFirstName 83 = .ok (.aload_n 0, 1) := by decide +kernel
theorem dX8_readFirstName_84 : decode cX8_readFirstName 84 = .ok (.getfield 9, 3) := by decide +kernel
theorem dX8_readFirstName_87 : decode cX8_readFirstName 87 = .ok (.getfield 113, 3) := by decide +kernel
theorem dX8_readFirstName_90 : decode cX8_readFirstName 90 = .ok (.iastore, 1) := by decide +kernel
theorem dX8_readFirstName_91 : decode cX8_readFirstName 91 = .ok (.iconst 1, 1) := by decide +kernel
theorem dX8_readFirstName_92 : decode cX8_readFirstName 92 = .ok (.ireturn, 1) := by decide +kernel
theorem dX8_readLine_0 : decode cX8_readLine 0 = .ok (.aload_n 0, 1) := by decide +kernel
theorem dX8_readLine_1 : decode cX8_readLine 1 = .ok (.getfield 9, 3) := by decide +kernel
theorem dX8_readLine_4 : decode cX8_readLine 4 = .ok (.ldc 45, 2) := by decide +kernel
theorem dX8_readLine_6 : decode cX8_readLine 6 = .ok (.invokevirtual 47, 3) := by decide +kernel
theorem dX8_readLine_9 : decode cX8_readLine 9 = .ok (.ifCond .eq 8, 3) := by decide +kernel
theorem dX8_readLine_12 : decode cX8_readLine 12 = .ok (.aload_n 0, 1) := by decide +kernel
theorem dX8_readLine_13 : decode cX8_readLine 13 = .ok (.invokevirtual 51, 3) := by decide +kernel
theorem dX8_readLine_16 : decode cX8_readLine 16 = .ok (.ireturn, 1) := by decide +kernel
theorem dX8_readLine_17 : decode cX8_readLine 17 = .ok (.aload_n 0, 1) := by decide +kernel
theorem dX8_readLine_18 : decode cX8_readLine 18 = .ok (.getfield 9, 3) := by decide +kernel
theorem dX8_readLine_21 : decode cX8_readLine 21 = .ok (.ldc 54, 2) := by decide +kernel
theorem dX8_readLine_23 : decode cX8_readLine 23 = .ok (.invokevirtual 47, 3) := by decide +kernel
theorem dX8_readLine_26 : decode cX8_readLine 26 = .ok (.ifCond .eq 36, 3) := by decide +kernel
theorem dX8_readLine_29 : decode cX8_readLine 29 = .ok (.aload_n 0, 1) := by decide +kernel
theorem dX8_readLine_30 : decode cX8_readLine 30 = .ok (.getfield 9, 3) := by decide +kernel
theorem dX8_readLine_33 : decode cX8_readLine 33 = .ok (.invokevirtual 56, 3) := by decide +kernel
theorem dX8_readLine_36 : decode cX8_readLine 36 = .ok (.ifCond .eq 24, 3) := by decide +kernel
theorem dX8_readLine_39 : decode cX8_readLine 39 = .ok (.aload_n 0, 1) := by decide +kernel
theorem dX8_readLine_40 : decode cX8_readLine 40 = .ok (.aload_n 0, 1) := by decide +kernel
theorem dX8_readLine_41 : decode cX8_readLine 41 = .ok (.getfield 15, 3) := by decide +kernel
theorem dX8_readLine_44 : decode cX8_readLine 44 = .ok (.getfield 59, 3) := by decide +kernel
theorem dX8_readLine_47 : decode cX8_readLine 47 = .ok (.iconst 0, 1) := by decide +kernel
theorem dX8_readLine_48 : decode cX8_readLine 48 = .ok (.bipush 99, 2) := by decide +kernel
theorem dX8_readLine_50 : decode cX8_readLine 50 = .ok (.invokevirtual 63, 3) := by decide +kernel
theorem dX8_readLine_53 : decode cX8_readLine 53 = .ok (.ifCond .eq 7, 3) := by decide +kernel
theorem dX8_readLine_56 : decode cX8_readLine 56 = .ok (.iconst 1, 1) := by decide +kernel
theorem dX8_readLine_57 : decode cX8_readLine 57 = .ok (.goto 4, 3) := by decide +kernel
theorem dX8_readLine_60 : decode cX8_readLine 60 = .ok (.iconst 0, 1) := by decide +kernel
theorem dX8_readLine_61 : decode cX8_readLine 61 = .ok (.ireturn, 1) := by decide +kernel
theorem dX8_readLine_62 : decode cX8_readLine 62 = .ok (.aload_n 0, 1) := by decide +kernel
theorem dX8_readLine_63 : decode cX8_readLine 63 = .ok (.getfield 9, 3) := by decide +kernel
theorem dX8_readLine_66 : decode cX8_readLine 66 = .ok (.ldc 67, 2) := by decide +kernel
theorem dX8_readLine_68 : decode cX8_readLine 68 = .ok (.invokevirtual 47, 3) := by decide +kernel
theorem dX8_readLine_71 : decode cX8_readLine 71 = .ok (.ifCond .eq 36, 3) := by decide +kernel
theorem dX8_readLine_74 : decode cX8_readLine 74 = .ok (.aload_n 0, 1) := by decide +kernel
theorem dX8_readLine_75 : decode cX8_readLine 75 = .ok (.getfield 9, 3) := by decide +kernel
theorem dX8_readLine_78 : decode cX8_readLine 78 = .ok (.invokevirtual 56, 3) := by decide +kernel
theorem dX8_readLine_81 : decode cX8_readLine 81 = .ok (.ifCond .eq 24, 3) := by decide +kernel
theorem dX8_readLine_84 : decode cX8_readLine 84 = .ok (.aload_n 0, 1) := by decide +kernel
theorem dX8_readLine_85 : decode cX8_readLine 85 = .ok (.aload_n 0, 1) := by decide +kernel
theorem dX8_readLine_86 : decode cX8_readLine 86 = .ok (.getfield 15, 3) := by decide +kernel
theorem dX8_readLine_89 : decode cX8_readLine 89 = .ok (.getfield 69, 3) := by decide +kernel
theorem dX8_readLine_92 : decode cX8_readLine 92 = .ok (.iconst 1, 1) := by decide +kernel
theorem dX8_readLine_93 : decode cX8_readLine 93 = .ok (.bipush 9, 2) := by decide +kernel
theorem dX8_readLine_95 : decode cX8_readLine 95 = .ok (.invokevirtual 63, 3) := by decide +kernel
theorem dX8_readLine_98 : decode cX8_readLine 98 = .ok (.ifCond .eq 7, 3) := by decide +kernel
theorem dX8_readLine_101 : decode cX8_readLine 101 = .ok (.iconst 1, 1) := by decide +kernel
theorem dX8_readLine_102 : decode cX8_readLine 102 = .ok (.goto 4, 3) := by decide +kernel
theorem dX8_readLine_105 : decode cX8_readLine 105 = .ok (.iconst 0, 1) := by decide +kernel
theorem dX8_readLine_106 : decode cX8_readLine 106 = .ok (.ireturn, 1) := by decide +kernel
theorem dX8_readLine_107 : decode cX8_readLine 107 = .ok (.aload_n 0, 1) := by decide +kernel
theorem dX8_readLine_108 : decode cX8_readLine 108 = .ok (.getfield 9, 3) := by decide +kernel
theorem dX8_readLine_111 : decode cX8_readLine 111 = .ok (.ldc 72, 2) := by decide +kernel
theorem dX8_readLine_113 : decode cX8_readLine 113 = .ok (.invokevirtual 47, 3) := by decide +kernel
theorem dX8_readLine_116 : decode cX8_readLine 116 = .ok (.ifCond .eq 8, 3) := by decide +kernel
theorem dX8_readLine_119 : decode cX8_readLine 119 = .ok (.aload_n 0, 1) := by decide +kernel
theorem dX8_readLine_120 : decode cX8_readLine 120 = .ok (.invokevirtual 74, 3) := by decide +kernel
theorem dX8_readLine_123 : decode cX8_readLine 123 = .ok (.ireturn, 1) := by decide +kernel
theorem dX8_readLine_124 : decode cX8_readLine 124 = .ok (.aload_n 0, 1) := by decide +kernel
theorem dX8_readLine_125 : decode cX8_readLine 125 = .ok (.getfield 9, 3) := by decide +kernel
theorem dX8_readLine_128 : decode cX8_readLine 128 = .ok (.ldc 77, 2) := by decide +kernel
theorem dX8_readLine_130 : decode cX8_readLine 130 = .ok (.invokevirtual 47, 3) := by decide +kernel
theorem dX8_readLine_133 : decode cX8_readLine 133 = .ok (.ifCond .eq 26, 3) := by decide +kernel
theorem dX8_readLine_136 : decode cX8_readLine 136 = .ok (.aload_n 0, 1) := by decide +kernel
theorem dX8_readLine_137 : decode cX8_readLine 137 = .ok (.getfield 9, 3) := by decide +kernel
theorem dX8_readLine_140 : decode cX8_readLine 140 = .ok (.invokevirtual 56, 3) := by decide +kernel
theorem dX8_readLine_143 : decode cX8_readLine 143 = .ok (.ifCond .eq 14, 3) := by decide +kernel
theorem dX8_readLine_146 : decode cX8_readLine 146 = .ok (.aload_n 0, 1) := by decide +kernel
theorem dX8_readLine_147 : decode cX8_readLine 147 = .ok (.invokevirtual 79, 3) := by decide +kernel
theorem dX8_readLine_150 : decode cX8_readLine 150 = .ok (.ifCond .eq 7, 3) := by decide +kernel
theorem dX8_readLine_153 : decode cX8_readLine 153 = .ok (.iconst 1, 1) := by decide +kernel
theorem dX8_readLine_154 : decode cX8_readLine 154 = .ok (.goto 4, 3) := by decide +kernel
theorem dX8_readLine_157 : decode cX8_readLine 157 = .ok (.iconst 0, 1) := by decide +kernel
theorem dX8_readLine_158 : decode cX8_readLine 158 = .ok (.ireturn, 1) := by decide +kernel
theorem dX8_readLine_159 : decode cX8_readLine 159 = .ok (.aload_n 0, 1) := by decide +kernel
theorem dX8_readLine_160 : decode cX8_readLine 160 = .ok (.getfield 9, 3) := by decide +kernel
theorem dX8_readLine_163 : decode cX8_readLine 163 = .ok (.ldc 82, 2) := by decide +kernel
theorem dX8_readLine_165 : decode cX8_readLine 165 = .ok (.invokevirtual 47, 3) := by decide +kernel
theorem dX8_readLine_168 : decode cX8_readLine 168 = .ok (.ifCond .eq 26, 3) := by decide +kernel
theorem dX8_readLine_171 : decode cX8_readLine 171 = .ok (.aload_n 0, 1) := by decide +kernel
theorem dX8_readLine_172 : decode cX8_readLine 172 = .ok (.getfield 9, 3) := by decide +kernel
theorem dX8_readLine_175 : decode cX8_readLine 175 = .ok (.invokevirtual 56, 3) := by decide +kernel
theorem dX8_readLine_178 : decode cX8_readLine 178 = .ok (.ifCond .eq 14, 3) := by decide +kernel
theorem dX8_readLine_181 : decode cX8_readLine 181 = .ok (.aload_n 0, 1) := by decide +kernel
theorem dX8_readLine_182 : decode cX8_readLine 182 = .ok (.invokevirtual 84, 3) := by decide +kernel
theorem dX8_readLine_185 : decode cX8_readLine 185 = .ok (.ifCond .eq 7, 3) := by decide +kernel
theorem dX8_readLine_188 : decode cX8_readLine 188 = .ok (.iconst 1, 1) := by decide +kernel
theorem dX8_readLine_189 : decode cX8_readLine 189 = .ok (.goto 4, 3) := by decide +kernel
theorem dX8_readLine_192 : decode cX8_readLine 192 = .ok (.iconst 0, 1) := by decide +kernel
theorem dX8_readLine_193 : decode cX8_readLine 193 = .ok (.ireturn, 1) := by decide +kernel
theorem dX8_readLine_194 : decode cX8_readLine 194 = .ok (.aload_n 0, 1) := by decide +kernel
theorem dX8_readLine_195 : decode cX8_readLine 195 = .ok (.getfield 9, 3) := by decide +kernel
theorem dX8_readLine_198 : decode cX8_readLine 198 = .ok (.ldc 87, 2) := by decide +kernel
theorem dX8_readLine_200 : decode cX8_readLine 200 = .ok (.invokevirtual 47, 3) := by decide +kernel
theorem dX8_readLine_203 : decode cX8_readLine 203 = .ok (.ifCond .eq 26, 3) := by decide +kernel
theorem dX8_readLine_206 : decode cX8_readLine 206 = .ok (.aload_n 0, 1) := by decide +kernel
theorem dX8_readLine_207 : decode cX8_readLine 207 = .ok (.getfield 9, 3) := by decide +kernel
theorem dX8_readLine_210 : decode cX8_readLine 210 = .ok (.invokevirtual 56, 3) := by decide +kernel
theorem dX8_readLine_213 : decode cX8_readLine 213 = .ok (.ifCond .eq 14, 3) := by decide +kernel
theorem dX8_readLine_216 : decode cX8_readLine 216 = .ok (.aload_n 0, 1) := by decide +kernel
theorem dX8_readLine_217 : decode cX8_readLine 217 = .ok (.invokevirtual 89, 3) := by decide +kernel
theorem dX8_readLine_220 : decode cX8_readLine 220 = .ok (.ifCond .eq 7, 3) := by decide +kernel
theorem dX8_readLine_223 : decode cX8_readLine 223 = .ok (.iconst 1, 1) := by decide +kernel
theorem dX8_readLine_224 : decode cX8_readLine 224 = .ok (.goto 4, 3) := by decide +kernel
theorem dX8_readLine_227 : decode cX8_readLine 227 = .ok (.iconst 0, 1) := by decide +kernel
theorem dX8_readLine_228 : decode cX8_readLine 228 = .ok (.ireturn, 1) := by decide +kernel
theorem dX8_readLine_229 : decode cX8_readLine 229 = .ok (.aload_n 0, 1) := by decide +kernel
theorem dX8_readLine_230 : decode cX8_readLine 230 = .ok (.getfield 9, 3) := by decide +kernel
theorem dX8_readLine_233 : decode cX8_readLine 233 = .ok (.iconst 1, 1) := by decide +kernel
theorem dX8_readLine_234 : decode cX8_readLine 234 = .ok (.invokevirtual 92, 3) := by decide +kernel
theorem dX8_readLine_237 : decode cX8_readLine 237 = .ok (.ireturn, 1) := by decide +kernel
theorem dX8_readNameLine_0 : decode cX8_readNameLine 0 = .ok (.aload_n 0, 1) := by decide +kernel
theorem dX8_readNameLine_1 : decode cX8_readNameLine 1 = .ok (.getfield 15, 3) := by decide +kernel
theorem dX8_readNameLine_4 : decode cX8_readNameLine 4 = .ok (.getfield 96, 3) := by decide +kernel
theorem dX8_readNameLine_7 : decode cX8_readNameLine 7 = .ok (.bipush 9, 2) := by decide +kernel
theorem dX8_readNameLine_9 : decode cX8_readNameLine 9 = .ok (.if_icmp .lt 12, 3) := by decide +kernel
theorem dX8_readNameLine_12 : decode cX8_readNameLine 12 = .ok (.aload_n 0, 1) := by decide +kernel
theorem dX8_readNameLine_13 : decode cX8_readNameLine 13 = .ok (.getfield 9, 3) := by decide +kernel
theorem dX8_readNameLine_16 : decode cX8_readNameLine 16 = .ok (.iconst 4, 1) := by decide +kernel
theorem dX8_readNameLine_17 : decode cX8_readNameLine 17 = .ok (.invokevirtual 92, 3) := by decide +kernel
theorem dX8_readNameLine_20 : decode cX8_readNameLine 20 = .ok (.ireturn, 1) := by decide +kernel
theorem dX8_readNameLine_21 : decode cX8_readNameLine 21 = .ok (.aload_n 0, 1) := by decide +kernel
theorem dX8_readNameLine_22 : decode cX8_readNameLine 22 = .ok (.getfield 9, 3) := by decide +kernel
theorem dX8_readNameLine_25 : decode cX8_readNameLine 25 = .ok (.invokevirtual 99, 3) := by decide +kernel
theorem dX8_readNameLine_28 : decode cX8_readNameLine 28 = .ok (.aload_n 0, 1) := by decide +kernel
theorem dX8_readNameLine_29 : decode cX8_readNameLine 29 = .ok (.getfield 9, 3) := by decide +kernel
theorem dX8_readNameLine_32 : decode cX8_readNameLine 32 = .ok (.getfield 102, 3) := by decide +kernel
theorem dX8_readNameLine_35 : decode cX8_readNameLine 35 = .ok (.lstore_n 1, 1) := by decide +kernel
theorem dX8_readNameLine_36 : decode cX8_readNameLine 36 = .ok (.aload_n 0, 1) := by decide +kernel
theorem dX8_readNameLine_37 : decode cX8_readNameLine 37 = .ok (.invokevirtual 106, 3) := by decide +kernel
theorem dX8_readNameLine_40 : decode cX8_readNameLine 40 = .ok (.ifCond .eq 16, 3) := by decide +kernel
theorem dX8_readNameLine_43 : decode cX8_readNameLine 43 = .ok (.aload_n 0, 1) := by decide +kernel
theorem dX8_readNameLine_44 : decode cX8_readNameLine 44 = .ok (.getfield 9, 3) := by decide +kernel
theorem dX8_readNameLine_47 : decode cX8_readNameLine 47 = .ok (.iconst 0, 1) := by decide +kernel
theorem dX8_readNameLine_48 : decode cX8_readNameLine 48 = .ok (.bipush 99, 2) := by decide +kernel
theorem dX8_readNameLine_50 : decode cX8_readNameLine 50 = .ok (.invokevirtual 109, 3) := by decide +kernel
theorem dX8_readNameLine_53 : decode cX8_readNameLine 53 = .ok (.ifCond .ne 5, 3) := by decide +kernel
theorem dX8_readNameLine_56 : decode cX8_readNameLine 56 = .ok (.iconst 0, 1) := by decide +kernel
theorem dX8_readNameLine_57 : decode cX8_readNameLine 57 = .ok (.ireturn, 1) := by decide +kernel
theorem dX8_readNameLine_58 : decode cX8_readNameLine 58 = .ok (.aload_n 0, 1) := by decide +kernel
theorem dX8_readNameLine_59 : decode cX8_readNameLine 59 = .ok (.getfield 15, 3) := by decide +kernel
theorem dX8_readNameLine_62 : decode cX8_readNameLine 62 = .ok (.lload_n 1, 1) := by decide +kernel
theorem dX8_readNameLine_63 : decode cX8_readNameLine 63 = .ok (.aload_n 0, 1) := by decide +kernel
theorem dX8_readNameLine_64 : decode cX8_readNameLine 64 = .ok (.getfield 9, 3) := by decide +kernel
theorem dX8_readNameLine_67 : decode cX8_readNameLine 67 = .ok (.getfield 113, 3) := by decide +kernel
theorem dX8_readNameLine_70 : decode cX8_readNameLine 70 = .ok (.invokevirtual 116, 3) := by decide +kernel
theorem dX8_readNameLine_73 : decode cX8_readNameLine 73 = .ok (.iconst 1, 1) := by decide +kernel
theorem dX8_readNameLine_74 : decode cX8_readNameLine 74 = .ok (.ireturn, 1) := by decide +kernel
theorem dX8_readOfName_0 : decode cX8_readOfName 0 = .ok (.aload_n 0, 1) := by decide +kernel
theorem dX8_readOfName_1 : decode cX8_readOfName 1 = .ok (.aload_n 0, 1) := by decide +kernel
theorem dX8_readOfName_2 : decode cX8_readOfName 2 = .ok (.getfield 15, 3) := by decide +kernel
theorem dX8_readOfName_5 : decode cX8_readOfName 5 = .ok (.aload_n 0, 1) := by decide +kernel
theorem dX8_readOfName_6 : decode cX8_readOfName 6 = .ok (.getfield 9, 3) := by decide +kernel
theorem dX8_readOfName_9 : decode cX8_readOfName 9 = .ok (.getfield 102, 3) := by decide +kernel
theorem dX8_readOfName_12 : decode cX8_readOfName 12 = .ok (.invokevirtual 131, 3) := by decide +kernel
theorem dX8_readOfName_15 : decode cX8_readOfName 15 = .ok (.aload_n 1, 1) := by decide +kernel
theorem dX8_readOfName_16 : decode cX8_readOfName 16 = .ok (.invokevirtual 147, 3) := by decide +kernel
theorem dX8_readOfName_19 : decode cX8_readOfName 19 = .ok (.ifCond .ne 5, 3) := by decide +kernel
theorem dX8_readOfName_22 : decode cX8_readOfName 22 = .ok (.iconst 0, 1) := by decide +kernel
theorem dX8_readOfName_23 : decode cX8_readOfName 23 = .ok (.ireturn, 1) := by decide +kernel
theorem dX8_readOfName_24 : decode cX8_readOfName 24 = .ok (.aload_n 0, 1) := by decide +kernel
theorem dX8_readOfName_25 : decode cX8_readOfName 25 = .ok (.getfield 9, 3) := by decide +kernel
theorem dX8_readOfName_28 : decode cX8_readOfName 28 = .ok (.getfield 113, 3) := by decide +kernel
theorem dX8_readOfName_31 : decode cX8_readOfName 31 = .ok (.istore 4, 2) := by decide +kernel
theorem dX8_readOfName_33 : decode cX8_readOfName 33 = .ok (.aload_n 0, 1) := by decide +kernel
