theorem dX12_bitOf_0 : decode cX12_bitOf 0 = .ok (.iload_n 0, 1) := by decide +kernel
theorem dX12_bitOf_1 : decode cX12_bitOf 1 = .ok (.iload_n 1, 1) := by decide +kernel
theorem dX12_bitOf_2 : decode cX12_bitOf 2 = .ok (.ishr, 1) := by decide +kernel
theorem dX12_bitOf_3 : decode cX12_bitOf 3 = .ok (.iconst 1, 1) := by decide +kernel
theorem dX12_bitOf_4 : decode cX12_bitOf 4 = .ok (.iand, 1) := by decide +kernel
theorem dX12_bitOf_5 : decode cX12_bitOf 5 = .ok (.iconst 1, 1) := by decide +kernel
theorem dX12_bitOf_6 : decode cX12_bitOf 6 = .ok (.if_icmp .ne 7, 3) := by decide +kernel
theorem dX12_bitOf_9 : decode cX12_bitOf 9 = .ok (.iconst 1, 1) := by decide +kernel
theorem dX12_bitOf_10 : decode cX12_bitOf 10 = .ok (.goto 4, 3) := by decide +kernel
theorem dX12_bitOf_13 : decode cX12_bitOf 13 = .ok (.iconst 0, 1) := by decide +kernel
theorem dX12_bitOf_14 : decode cX12_bitOf 14 = .ok (.ireturn, 1) := by decide +kernel
theorem dX12_end_0 : decode cX12_end 0 = .ok (.aload_n 0, 1) := by decide +kernel
theorem dX12_end_1 : decode cX12_end 1 = .ok (.iconst 0, 1) := by decide +kernel
theorem dX12_end_2 : decode cX12_end 2 = .ok (.putfield 1, 3) := by decide +kernel
theorem dX12_end_5 : decode cX12_end 5 = .ok (.iload_n 1, 1) := by decide +kernel
theorem dX12_end_6 : decode cX12_end 6 = .ok (.ifCond .lt 11, 3) := by decide +kernel
theorem dX12_end_9 : decode cX12_end 9 = .ok (.iload_n 1, 1) := by decide +kernel
theorem dX12_end_10 : decode cX12_end 10 = .ok (.aload_n 0, 1) := by decide +kernel
theorem dX12_end_11 : decode cX12_end 11 = .ok (.getfield 7, 3) := by decide +kernel
theorem dX12_end_14 : decode cX12_end 14 = .ok (.if_icmp .le 5, 3) := by decide +kernel
theorem dX12_end_17 : decode cX12_end 17 = .ok (.iconst 0, 1) := by decide +kernel
theorem dX12_end_18 : decode cX12_end 18 = .ok (.ireturn, 1) := by decide +kernel
theorem dX12_end_19 : decode cX12_end 19 = .ok (.aload_n 0, 1) := by decide +kernel
theorem dX12_end_20 : decode cX12_end 20 = .ok (.iload_n 1, 1) := by decide +kernel
theorem dX12_end_21 : decode cX12_end 21 = .ok (.putfield 7, 3) := by decide +kernel
theorem dX12_end_24 : decode cX12_end 24 = .ok (.iconst 1, 1) := by decide +kernel
theorem dX12_end_25 : decode cX12_end 25 = .ok (.ireturn, 1) := by decide +kernel
theorem dX12_feed_0 : decode cX12_feed 0 = .ok (.aload_n 0, 1) := by decide +kernel
theorem dX12_feed_1 : decode cX12_feed 1 = .ok (.iconst 0, 1) := by decide +kernel
theorem dX12_feed_2 : decode cX12_feed 2 = .ok (.putfield 1, 3) := by decide +kernel
theorem dX12_feed_5 : decode cX12_feed 5 = .ok (.aload_n 0, 1) := by decide +kernel
theorem dX12_feed_6 : decode cX12_feed 6 = .ok (.getfield 7, 3) := by decide +kernel
theorem dX12_feed_9 : decode cX12_feed 9 = .ok (.bipush 20, 2) := by decide +kernel
theorem dX12_feed_11 : decode cX12_feed 11 = .ok (.iadd, 1) := by decide +kernel
theorem dX12_feed_12 : decode cX12_feed 12 = .ok (.sipush 940, 3) := by decide +kernel
theorem dX12_feed_15 : decode cX12_feed 15 = .ok (.if_icmp .le 5, 3) := by decide +kernel
theorem dX12_feed_18 : decode cX12_feed 18 = .ok (.iconst (-1), 1) := by decide +kernel
theorem dX12_feed_19 : decode cX12_feed 19 = .ok (.ireturn, 1) := by decide +kernel
theorem dX12_feed_20 : decode cX12_feed 20 = .ok (.aload_n 0, 1) := by decide +kernel
theorem dX12_feed_21 : decode cX12_feed 21 = .ok (.iload_n 1, 1) := by decide +kernel
theorem dX12_feed_22 : decode cX12_feed 22 = .ok (.invokevirtual 10, 3) := by decide +kernel
theorem dX12_feed_25 : decode cX12_feed 25 = .ok (.aload_n 0, 1) := by decide +kernel
theorem dX12_feed_26 : decode cX12_feed 26 = .ok (.iload_n 2, 1) := by decide +kernel
theorem dX12_feed_27 : decode cX12_feed 27 = .ok (.invokevirtual 10, 3) := by decide +kernel
theorem dX12_feed_30 : decode cX12_feed 30 = .ok (.aload_n 0, 1) := by decide +kernel
theorem dX12_feed_31 : decode cX12_feed 31 = .ok (.iload_n 3, 1) := by decide +kernel
theorem dX12_feed_32 : decode cX12_feed 32 = .ok (.invokevirtual 10, 3) := by decide +kernel
theorem dX12_feed_35 : decode cX12_feed 35 = .ok (.aload_n 0, 1) := by decide +kernel
theorem dX12_feed_36 : decode cX12_feed 36 = .ok (.iload 4, 2) := by decide +kernel
theorem dX12_feed_38 : decode cX12_feed 38 = .ok (.invokevirtual 10, 3) := by decide +kernel
theorem dX12_feed_41 : decode cX12_feed 41 = .ok (.aload_n 0, 1) := by decide +kernel
theorem dX12_feed_42 : decode cX12_feed 42 = .ok (.iload 5, 2) := by decide +kernel
theorem dX12_feed_44 : decode cX12_feed 44 = .ok (.invokevirtual 10, 3) := by decide +kernel
theorem dX12_feed_47 : decode cX12_feed 47 = .ok (.aload_n 0, 1) := by decide +kernel
theorem dX12_feed_48 : decode cX12_feed 48 = .ok (.getfield 7, 3) := by decide +kernel
theorem dX12_feed_51 : decode cX12_feed 51 = .ok (.ireturn, 1) := by decide +kernel
theorem dX12_find_0 : decode cX12_find 0 = .ok (.iconst 0, 1) := by decide +kernel
theorem dX12_find_1 : decode cX12_find 1 = .ok (.istore_n 3, 1) := by decide +kernel
theorem dX12_find_2 : decode cX12_find 2 = .ok (.iload_n 3, 1) := by decide +kernel
theorem dX12_find_3 : decode cX12_find 3 = .ok (.iload_n 2, 1) := by decide +kernel
theorem dX12_find_4 : decode cX12_find 4 = .ok (.if_icmp .ge 27, 3) := by decide +kernel
theorem dX12_find_7 : decode cX12_find 7 = .ok (.aload_n 0, 1) := by decide +kernel
theorem dX12_find_8 : decode cX12_find 8 = .ok (.getfield 43, 3) := by decide +kernel
theorem dX12_find_11 : decode cX12_find 11 = .ok (.iload_n 1, 1) := by decide +kernel
theorem dX12_find_12 : decode cX12_find 12 = .ok (.iload_n 3, 1) := by decide +kernel
theorem dX12_find_13 : decode cX12_find 13 = .ok (.iadd, 1) := by decide +kernel
theorem dX12_find_14 : decode cX12_find 14 = .ok (.laload, 1) := by decide +kernel
theorem dX12_find_15 : decode cX12_find 15 = .ok (.aload_n 0, 1) := by decide +kernel
theorem dX12_find_16 : decode cX12_find 16 = .ok (.getfield 158, 3) := by decide +kernel
theorem dX12_find_19 : decode cX12_find 19 = .ok (.lcmp, 1) := by decide +kernel
theorem dX12_find_20 : decode cX12_find 20 = .ok (.ifCond .ne 5, 3) := by decide +kernel
theorem dX12_find_23 : decode cX12_find 23 = .ok (.iload_n 3, 1) := by decide +kernel
theorem dX12_find_24 : decode cX12_find 24 = .ok (.ireturn, 1) := by decide +kernel
theorem dX12_find_25 : decode cX12_find 25 = .ok (.iinc 3 1, 3) := by decide +kernel
theorem dX12_find_28 : decode cX12_find 28 = .ok (.goto (-26), 3) := by decide +kernel
theorem dX12_find_31 : decode cX12_find 31 = .ok (.iconst (-1), 1) := by decide +kernel
theorem dX12_find_32 : decode cX12_find 32 = .ok (.ireturn, 1) := by decide +kernel
theorem dX12_four_0 : decode cX12_four 0 = .ok (.bipush 24, 2) := by decide +kernel
theorem dX12_four_2 : decode cX12_four 2 = .ok (.istore_n 2, 1) := by decide +kernel
theorem dX12_four_3 : decode cX12_four 3 = .ok (.iload_n 2, 1) := by decide +kernel
theorem dX12_four_4 : decode cX12_four 4 = .ok (.ifCond .lt 32, 3) := by decide +kernel
theorem dX12_four_7 : decode cX12_four 7 = .ok (.aload_n 0, 1) := by decide +kernel
theorem dX12_four_8 : decode cX12_four 8 = .ok (.getfield 14, 3) := by decide +kernel
theorem dX12_four_11 : decode cX12_four 11 = .ok (.aload_n 0, 1) := by decide +kernel
theorem dX12_four_12 : decode cX12_four 12 = .ok (.getfield 7, 3) := by decide +kernel
theorem dX12_four_15 : decode cX12_four 15 = .ok (.iload_n 1, 1) := by decide +kernel
theorem dX12_four_16 : decode cX12_four 16 = .ok (.iload_n 2, 1) := by decide +kernel
theorem dX12_four_17 : decode cX12_four 17 = .ok (.ishr, 1) := by decide +kernel
theorem dX12_four_18 : decode cX12_four 18 = .ok (.i2b, 1) := by decide +kernel
theorem dX12_four_19 : decode cX12_four 19 = .ok (.bastore, 1) := by decide +kernel
theorem dX12_four_20 : decode cX12_four 20 = .ok (.aload_n 0, 1) := by decide +kernel
theorem dX12_four_21 : decode cX12_four 21 = .ok (.dup, 1) := by decide +kernel
theorem dX12_four_22 : decode cX12_four 22 = .ok (.getfield 7, 3) := by decide +kernel
theorem dX12_four_25 : decode cX12_four 25 = .ok (.iconst 1, 1) := by decide +kernel
theorem dX12_four_26 : decode cX12_four 26 = .ok (.iadd, 1) := by decide +kernel
theorem dX12_four_27 : decode cX12_four 27 = .ok (.putfield 7, 3) := by decide +kernel
theorem dX12_four_30 : decode cX12_four 30 = .ok (.iinc 2 (-8), 3) := by decide +kernel
theorem dX12_four_33 : decode cX12_four 33 = .ok (.goto (-30), 3) := by decide +kernel
theorem dX12_four_36 : decode cX12_four 36 = .ok (.return_, 1) := by decide +kernel
theorem dX12_fresh_0 : decode cX12_fresh 0 = .ok (.aload_n 0, 1) := by decide +kernel
theorem dX12_fresh_1 : decode cX12_fresh 1 = .ok (.invokevirtual 188, 3) := by decide +kernel
theorem dX12_fresh_4 : decode cX12_fresh 4 = .ok (.ifCond .ne 9, 3) := by decide +kernel
theorem dX12_fresh_7 : decode cX12_fresh 7 = .ok (.aload_n 0, 1) := by decide +kernel
theorem dX12_fresh_8 : decode cX12_fresh 8 = .ok (.iconst 1, 1) := by decide +kernel
theorem dX12_fresh_9 : decode cX12_fresh 9 = .ok (.invokevirtual 171, 3) := by decide +kernel
theorem dX12_fresh_12 : decode cX12_fresh 12 = .ok (.ireturn, 1) := by decide +kernel
theorem dX12_fresh_13 : decode cX12_fresh 13 = .ok (.aload_n 0, 1) := by decide +kernel
theorem dX12_fresh_14 : decode cX12_fresh 14 = .ok (.bipush 18, 2) := by decide +kernel
theorem dX12_fresh_16 : decode cX12_fresh 16 = .ok (.aload_n 0, 1) := by decide +kernel
theorem dX12_fresh_17 : decode cX12_fresh 17 = .ok (.getfield 37, 3) := by decide +kernel
theorem dX12_fresh_20 : decode cX12_fresh 20 = .ok (.iconst 0, 1) := by decide +kernel
theorem dX12_fresh_21 : decode cX12_fresh 21 = .ok (.iaload, 1) := by decide +kernel
theorem dX12_fresh_22 : decode cX12_fresh 22 = .ok (.invokevirtual 192, 3) := by decide +kernel
theorem dX12_fresh_25 : decode cX12_fresh 25 = .ok (.ifCond .ge 18, 3) := by decide +kernel
theorem dX12_fresh_28 : decode cX12_fresh 28 = .ok (.aload_n 0, 1) := by decide +kernel
theorem dX12_fresh_29 : decode cX12_fresh 29 = .ok (.bipush 27, 2) := by decide +kernel
theorem dX12_fresh_31 : decode cX12_fresh 31 = .ok (.aload_n 0, 1) := by decide +kernel
theorem dX12_fresh_32 : decode cX12_fresh 32 = .ok (.getfield 37, 3) := by decide +kernel
theorem dX12_fresh_35 : decode cX12_fresh 35 = .ok (.iconst 1, 1) := by decide +kernel
theorem dX12_fresh_36 : decode cX12_fresh 36 = .ok (.iaload, 1) := by decide +kernel
theorem dX12_fresh_37 : decode cX12_fresh 37 = .ok (.invokevirtual 192, 3) := by decide +kernel
theorem dX12_fresh_40 : decode cX12_fresh 40 = .ok (.ifCond .lt 9, 3) := by decide +kernel
theorem dX12_fresh_43 : decode cX12_fresh 43 = .ok (.aload_n 0, 1) := by decide +kernel
theorem dX12_fresh_44 : decode cX12_fresh 44 = .ok (.iconst 3, 1) := by decide +kernel
theorem dX12_fresh_45 : decode cX12_fresh 45 = .ok (.invokevirtual 171, 3) := by decide +kernel
theorem dX12_fresh_48 : decode cX12_fresh 48 = .ok (.ireturn, 1) := by decide +kernel
theorem dX12_fresh_49 : decode cX12_fresh 49 = .ok (.aload_n 0, 1) := by decide +kernel
theorem dX12_fresh_50 : decode cX12_fresh 50 = .ok (.getfield 43, 3) := by decide +kernel
theorem dX12_fresh_53 : decode cX12_fresh 53 = .ok (.iload_n 1, 1) := by decide +kernel
theorem dX12_fresh_54 : decode cX12_fresh 54 = .ok (.aload_n 0, 1) := by decide +kernel
theorem dX12_fresh_55 : decode cX12_fresh 55 = .ok (.getfield 158, 3) := by decide +kernel
theorem dX12_fresh_58 : decode cX12_fresh 58 = .ok (.lastore, 1) := by decide +kernel
theorem dX12_fresh_59 : decode cX12_fresh 59 = .ok (.aload_n 0, 1) := by decide +kernel
theorem dX12_fresh_60 : decode cX12_fresh 60 = .ok (.invokevirtual 174, 3) := by decide +kernel
theorem dX12_fresh_63 : decode cX12_fresh 63 = .ok (.iconst 1, 1) := by decide +kernel
theorem dX12_fresh_64 : decode cX12_fresh 64 = .ok (.ireturn, 1) := by decide +kernel
theorem dX12_isName_0 : decode cX12_isName 0 = .ok (.aload_n 0, 1) := by decide +kernel
theorem dX12_isName_1 : decode cX12_isName 1 = .ok (.getfield 145, 3) := by decide +kernel
theorem dX12_isName_4 : decode cX12_isName 4 = .ok (.iconst 1, 1) := by decide +kernel
theorem dX12_isName_5 : decode cX12_isName 5 = .ok (.if_icmp .ne 7, 3) := by decide +kernel
theorem dX12_isName_8 : decode cX12_isName 8 = .ok (.iconst 1, 1) := by decide +kernel
theorem dX12_isName_9 : decode cX12_isName 9 = .ok (.goto 4, 3) := by decide +kernel
theorem dX12_isName_12 : decode cX12_isName 12 = .ok (.iconst 0, 1) := by decide +kernel
theorem dX12_isName_13 : decode cX12_isName 13 = .ok (.istore_n 1, 1) := by decide +kernel
theorem dX12_isName_14 : decode cX12_isName 14 = .ok (.iconst 0, 1) := by decide +kernel
theorem dX12_isName_15 : decode cX12_isName 15 = .ok (.istore_n 2, 1) := by decide +kernel
theorem dX12_isName_16 : decode cX12_isName 16 = .ok (.iload_n 2, 1) := by decide +kernel
theorem dX12_isName_17 : decode cX12_isName 17 = .ok (.bipush 27, 2) := by decide +kernel
theorem dX12_isName_19 : decode cX12_isName 19 = .ok (.if_icmp .ge 33, 3) := by decide +kernel
theorem dX12_isName_22 : decode cX12_isName 22 = .ok (.iload_n 1, 1) := by decide +kernel
theorem dX12_isName_23 : decode cX12_isName 23 = .ok (.ifCond .eq 21, 3) := by decide +kernel
theorem dX12_isName_26 : decode cX12_isName 26 = .ok (.aload_n 0, 1) := by decide +kernel
theorem dX12_isName_27 : decode cX12_isName 27 = .ok (.getfield 158, 3) := by decide +kernel
theorem dX12_isName_30 : decode cX12_isName 30 = .ok (.aload_n 0, 1) := by decide +kernel
theorem dX12_isName_31 : decode cX12_isName 31 = .ok (.getfield 47, 3) := by decide +kernel
theorem dX12_isName_34 : decode cX12_isName 34 = .ok (.iload_n 2, 1) := by decide +kernel
theorem dX12_isName_35 : decode cX12_isName 35 = .ok (.laload, 1) := by decide +kernel
theorem dX12_isName_36 : decode cX12_isName 36 = .ok (.lcmp, 1) := by decide +kernel
theorem dX12_isName_37 : decode cX12_isName 37 = .ok (.ifCond .eq 7, 3) := by decide +kernel
theorem dX12_isName_40 : decode cX12_isName 40 = .ok (.iconst 1, 1) := by decide +kernel
theorem dX12_isName_41 : decode cX12_isName 41 = .ok (.goto 4, 3) := by decide +kernel
theorem dX12_isName_44 : decode cX12_isName 44 = .ok (.iconst 0, 1) := by decide +kernel
theorem dX12_isName_45 : decode cX12_isName 45 = .ok (.istore_n 1, 1) := by decide +kernel
theorem dX12_isName_46 : decode cX12_isName 46 = .ok (.iinc 2 1, 3) := by decide +kernel
theorem dX12_isName_49 : decode cX12_isName 49 = .ok (.goto (-33), 3) := by decide +kernel
theorem dX12_isName_52 : decode cX12_isName 52 = .ok (.iload_n 1, 1) := by decide +kernel
theorem dX12_isName_53 : decode cX12_isName 53 = .ok (.ireturn, 1) := by decide +kernel
theorem dX12_isSign_0 : decode cX12_isSign 0 = .ok (.aload_n 0, 1) := by decide +kernel
theorem dX12_isSign_1 : decode cX12_isSign 1 = .ok (.getfield 145, 3) := by decide +kernel
theorem dX12_isSign_4 : decode cX12_isSign 4 = .ok (.iconst 3, 1) := by decide +kernel
theorem dX12_isSign_5 : decode cX12_isSign 5 = .ok (.if_icmp .ne 15, 3) := by decide +kernel
theorem dX12_isSign_8 : decode cX12_isSign 8 = .ok (.aload_n 0, 1) := by decide +kernel
theorem dX12_isSign_9 : decode cX12_isSign 9 = .ok (.getfield 155, 3) := by decide +kernel
theorem dX12_isSign_12 : decode cX12_isSign 12 = .ok (.iload_n 1, 1) := by decide +kernel
theorem dX12_isSign_13 : decode cX12_isSign 13 = .ok (.if_icmp .ne 7, 3) := by decide +kernel
theorem dX12_isSign_16 : decode cX12_isSign 16 = .ok (.iconst 1, 1) := by decide +kernel
theorem dX12_isSign_17 : decode cX12_isSign 17 = .ok (.goto 4, 3) := by decide +kernel
theorem dX12_isSign_20 : decode cX12_isSign 20 = .ok (.iconst 0, 1) := by decide +kernel
theorem dX12_isSign_21 : decode cX12_isSign 21 = .ok (.ireturn, 1) := by decide +kernel
theorem dX12_isWord_0 : decode cX12_isWord 0 = .ok (.aload_n 0, 1) := by decide +kernel
theorem dX12_isWord_1 : decode cX12_isWord 1 = .ok (.getfield 145, 3) := by decide +kernel
theorem dX12_isWord_4 : decode cX12_isWord 4 = .ok (.iconst 1, 1) := by decide +kernel
theorem dX12_isWord_5 : decode cX12_isWord 5 = .ok (.if_icmp .ne 16, 3) := by decide +kernel
theorem dX12_isWord_8 : decode cX12_isWord 8 = .ok (.aload_n 0, 1) := by decide +kernel
theorem dX12_isWord_9 : decode cX12_isWord 9 = .ok (.getfield 158, 3) := by decide +kernel
theorem dX12_isWord_12 : decode cX12_isWord 12 = .ok (.lload_n 1, 1) := by decide +kernel
theorem dX12_isWord_13 : decode cX12_isWord 13 = .ok (.lcmp, 1) := by decide +kernel
theorem dX12_isWord_14 : decode cX12_isWord 14 = .ok (.ifCond .ne 7, 3) := by decide +kernel
theorem dX12_isWord_17 : decode cX12_isWord 17 = .ok (.iconst 1, 1) := by decide +kernel
theorem dX12_isWord_18 : decode cX12_isWord 18 = .ok (.goto 4, 3) := by decide +kernel
theorem dX12_isWord_21 : decode cX12_isWord 21 = .ok (.iconst 0, 1) := by decide +kernel
theorem dX12_isWord_22 : decode cX12_isWord 22 = .ok (.ireturn, 1) := by decide +kernel
theorem dX12_line_0 : decode cX12_line 0 = .ok (.aload_n 0, 1) := by decide +kernel
theorem dX12_line_1 : decode cX12_line 1 = .ok (.ldc2_w 81, 3) := by decide +kernel
theorem dX12_line_4 : decode cX12_line 4 = .ok (.invokevirtual 196, 3) := by decide +kernel
theorem dX12_line_7 : decode cX12_line 7 = .ok (.ifCond .eq 64, 3) := by decide +kernel
theorem dX12_line_10 : decode cX12_line 10 = .ok (.aload_n 0, 1) := by decide +kernel
theorem dX12_line_11 : decode cX12_line 11 = .ok (.getfield 37, 3) := by decide +kernel
theorem dX12_line_14 : decode cX12_line 14 = .ok (.iconst 0, 1) := by decide +kernel
theorem dX12_line_15 : decode cX12_line 15 = .ok (.iaload, 1) := by decide +kernel
theorem dX12_line_16 : decode cX12_line 16 = .ok (.istore_n 1, 1) := by decide +kernel
theorem dX12_line_17 : decode cX12_line 17 = .ok (.iload_n 1, 1) := by decide +kernel
theorem dX12_line_18 : decode cX12_line 18 = .ok (.bipush 9, 2) := by decide +kernel
theorem dX12_line_20 : decode cX12_line 20 = .ok (.if_icmp .ne 9, 3) := by decide +kernel
theorem dX12_line_23 : decode cX12_line 23 = .ok (.aload_n 0, 1) := by decide +kernel
theorem dX12_line_24 : decode cX12_line 24 = .ok (.iconst 4, 1) := by decide +kernel
theorem dX12_line_25 : decode cX12_line 25 = .ok (.invokevirtual 171, 3) := by decide +kernel
theorem dX12_line_28 : decode cX12_line 28 = .ok (.ireturn, 1) := by decide +kernel
theorem dX12_line_29 : decode cX12_line 29 = .ok (.aload_n 0, 1) := by decide +kernel
theorem dX12_line_30 : decode cX12_line 30 = .ok (.invokevirtual 174, 3) := by decide +kernel
theorem dX12_line_33 : decode cX12_line 33 = .ok (.aload_n 0, 1) := by decide +kernel
theorem dX12_line_34 : decode cX12_line 34 = .ok (.bipush 18, 2) := by decide +kernel
theorem dX12_line_36 : decode cX12_line 36 = .ok (.iload_n 1, 1) := by decide +kernel
theorem dX12_line_37 : decode cX12_line 37 = .ok (.iadd, 1) := by decide +kernel
theorem dX12_line_38 : decode cX12_line 38 = .ok (.invokevirtual 200, 3) := by decide +kernel
theorem dX12_line_41 : decode cX12_line 41 = .ok (.ifCond .eq 16, 3) := by decide +kernel
theorem dX12_line_44 : decode cX12_line 44 = .ok (.aload_n 0, 1) := by decide +kernel
theorem dX12_line_45 : decode cX12_line 45 = .ok (.iconst 2, 1) := by decide +kernel
theorem dX12_line_46 : decode cX12_line 46 = .ok (.iload_n 1, 1) := by decide +kernel
theorem dX12_line_47 : decode cX12_line 47 = .ok (.iadd, 1) := by decide +kernel
theorem dX12_line_48 : decode cX12_line 48 = .ok (.iconst 0, 1) := by decide +kernel
theorem dX12_line_49 : decode cX12_line 49 = .ok (.bipush 99, 2) := by decide +kernel
theorem dX12_line_51 : decode cX12_line 51 = .ok (.invokevirtual 203, 3) := by decide +kernel
theorem dX12_line_54 : decode cX12_line 54 = .ok (.ifCond .ne 5, 3) := by decide +kernel
theorem dX12_line_57 : decode cX12_line 57 = .ok (.iconst 0, 1) := by decide +kernel
theorem dX12_line_58 : decode cX12_line 58 = .ok (.ireturn, 1) := by decide +kernel
theorem dX12_line_59 : decode cX12_line 59 = .ok (.aload_n 0, 1) := by decide +kernel
theorem dX12_line_60 : decode cX12_line 60 = .ok (.getfield 37, 3) := by decide +kernel
theorem dX12_line_63 : decode cX12_line 63 = .ok (.iconst 0, 1) := by decide +kernel
theorem dX12_line_64 : decode cX12_line 64 = .ok (.dup2, 1) := by decide +kernel
theorem dX12_line_65 : decode cX12_line 65 = .ok (.iaload, 1) := by decide +kernel
theorem dX12_line_66 : decode cX12_line 66 = .ok (.iconst 1, 1) := by decide +kernel
theorem dX12_line_67 : decode cX12_line 67 = .ok (.iadd, 1) := by decide +kernel
theorem dX12_line_68 : decode cX12_line 68 = .ok (.iastore, 1) := by decide +kernel
theorem dX12_line_69 : decode cX12_line 69 = .ok (.iconst 1, 1) := by decide +kernel
theorem dX12_line_70 : decode cX12_line 70 = .ok (.ireturn, 1) := by decide +kernel
theorem dX12_line_71 : decode cX12_line 71 = .ok (.aload_n 0, 1) := by decide +kernel
theorem dX12_line_72 : decode cX12_line 72 = .ok (.ldc2_w 87, 3) := by decide +kernel
theorem dX12_line_75 : decode cX12_line 75 = .ok (.invokevirtual 196, 3) := by decide +kernel
theorem dX12_line_78 : decode cX12_line 78 = .ok (.ifCond .eq 8, 3) := by decide +kernel
theorem dX12_line_81 : decode cX12_line 81 = .ok (.aload_n 0, 1) := by decide +kernel
theorem dX12_line_82 : decode cX12_line 82 = .ok (.invokevirtual 206, 3) := by decide +kernel
theorem dX12_line_85 : decode cX12_line 85 = .ok (.ireturn, 1) := by decide +kernel
theorem dX12_line_86 : decode cX12_line 86 = .ok (.aload_n 0, 1) := by decide +kernel
theorem dX12_line_87 : decode cX12_line 87 = .ok (.ldc2_w 83, 3) := by decide +kernel
theorem dX12_line_90 : decode cX12_line 90 = .ok (.invokevirtual 196, 3) := by decide +kernel
theorem dX12_line_93 : decode cX12_line 93 = .ok (.istore_n 1, 1) := by decide +kernel
theorem dX12_line_94 : decode cX12_line 94 = .ok (.iload_n 1, 1) := by decide +kernel
theorem dX12_line_95 : decode cX12_line 95 = .ok (.ifCond .ne 13, 3) := by decide +kernel
theorem dX12_line_98 : decode cX12_line 98 = .ok (.aload_n 0, 1) := by decide +kernel
theorem dX12_line_99 : decode cX12_line 99 = .ok (.ldc2_w 85, 3) := by decide +kernel
theorem dX12_line_102 : decode cX12_line 102 = .ok (.invokevirtual 196, 3) := by decide +kernel
theorem dX12_line_105 : decode cX12_line 105 = .ok (.ifCond .eq 114, 3) := by decide +kernel
theorem dX12_line_108 : decode cX12_line 108 = .ok (.aload_n 0, 1) := by decide +kernel
theorem dX12_line_109 : decode cX12_line 109 = .ok (.invokevirtual 174, 3) := by decide +kernel
theorem dX12_line_112 : decode cX12_line 112 = .ok (.aload_n 0, 1) := by decide +kernel
theorem dX12_line_113 : decode cX12_line 113 = .ok (.bipush 18, 2) := by decide +kernel
theorem dX12_line_115 : decode cX12_line 115 = .ok (.aload_n 0, 1) := by decide +kernel
theorem dX12_line_116 : decode cX12_line 116 = .ok (.getfield 37, 3) := by decide +kernel
theorem dX12_line_119 : decode cX12_line 119 = .ok (.iconst 0, 1) := by decide +kernel
theorem dX12_line_120 : decode cX12_line 120 = .ok (.iaload, 1) := by decide +kernel
theorem dX12_line_121 : decode cX12_line 121 = .ok (.invokevirtual 209, 3) := by decide +kernel
theorem dX12_line_124 : decode cX12_line 124 = .ok (.ifCond .ne 5, 3) := by decide +kernel
theorem dX12_line_127 : decode cX12_line 127 = .ok (.iconst 0, 1) := by decide +kernel
theorem dX12_line_128 : decode cX12_line 128 = .ok (.ireturn, 1) := by decide +kernel
theorem dX12_line_129 : decode cX12_line 129 = .ok (.aload_n 0, 1) := by decide +kernel
theorem dX12_line_130 : decode cX12_line 130 = .ok (.getfield 181, 3) := by decide +kernel
theorem dX12_line_133 : decode cX12_line 133 = .ok (.istore_n 2, 1) := by decide +kernel
theorem dX12_line_134 : decode cX12_line 134 = .ok (.aload_n 0, 1) := by decide +kernel
theorem dX12_line_135 : decode cX12_line 135 = .ok (.getfield 212, 3) := by decide +kernel
theorem dX12_line_138 : decode cX12_line 138 = .ok (.iload_n 1, 1) := by decide +kernel
theorem dX12_line_139 : decode cX12_line 139 = .ok (.ifCond .eq 7, 3) := by decide +kernel
theorem dX12_line_142 : decode cX12_line 142 = .ok (.iload_n 2, 1) := by decide +kernel
theorem dX12_line_143 : decode cX12_line 143 = .ok (.goto 7, 3) := by decide +kernel
theorem dX12_line_146 : decode cX12_line 146 = .ok (.bipush 9, 2) := by decide +kernel
theorem dX12_line_148 : decode cX12_line 148 = .ok (.iload_n 2, 1) := by decide +kernel
theorem dX12_line_149 : decode cX12_line 149 = .ok (.iadd, 1) := by decide +kernel
theorem dX12_line_150 : decode cX12_line 150 = .ok (.invokestatic 215, 3) := by decide +kernel
theorem dX12_line_153 : decode cX12_line 153 = .ok (.ifCond .eq 9, 3) := by decide +kernel
theorem dX12_line_156 : decode cX12_line 156 = .ok (.aload_n 0, 1) := by decide +kernel
theorem dX12_line_157 : decode cX12_line 157 = .ok (.iconst 3, 1) := by decide +kernel
theorem dX12_line_158 : decode cX12_line 158 = .ok (.invokevirtual 171, 3) := by decide +kernel
theorem dX12_line_161 : decode cX12_line 161 = .ok (.ireturn, 1) := by decide +kernel
theorem dX12_line_162 : decode cX12_line 162 = .ok (.aload_n 0, 1) := by decide +kernel
theorem dX12_line_163 : decode cX12_line 163 = .ok (.dup, 1) := by decide +kernel
theorem dX12_line_164 : decode cX12_line 164 = .ok (.getfield 212, 3) := by decide +kernel
theorem dX12_line_167 : decode cX12_line 167 = .ok (.iconst 1, 1) := by decide +kernel
theorem dX12_line_168 : decode cX12_line 168 = .ok (.iload_n 1, 1) := by decide +kernel
theorem dX12_line_169 : decode cX12_line 169 = .ok (.ifCond .eq 7, 3) := by decide +kernel
theorem dX12_line_172 : decode cX12_line 172 = .ok (.iload_n 2, 1) := by decide +kernel
theorem dX12_line_173 : decode cX12_line 173 = .ok (.goto 7, 3) := by decide +kernel
theorem dX12_line_176 : decode cX12_line 176 = .ok (.bipush 9, 2) := by decide +kernel
theorem dX12_line_178 : decode cX12_line 178 = .ok (.iload_n 2, 1) := by decide +kernel
theorem dX12_line_179 : decode cX12_line 179 = .ok (.iadd, 1) := by decide +kernel
theorem dX12_line_180 : decode cX12_line 180 = .ok (.ishl, 1) := by decide +kernel
theorem dX12_line_181 : decode cX12_line 181 = .ok (.ior, 1) := by decide +kernel
theorem dX12_line_182 : decode cX12_line 182 = .ok (.putfield 212, 3) := by decide +kernel
theorem dX12_line_185 : decode cX12_line 185 = .ok (.aload_n 0, 1) := by decide +kernel
theorem dX12_line_186 : decode cX12_line 186 = .ok (.invokevirtual 174, 3) := by decide +kernel
theorem dX12_line_189 : decode cX12_line 189 = .ok (.iload_n 1, 1) := by decide +kernel
theorem dX12_line_190 : decode cX12_line 190 = .ok (.ifCond .eq 17, 3) := by decide +kernel
theorem dX12_line_193 : decode cX12_line 193 = .ok (.aload_n 0, 1) := by decide +kernel
theorem dX12_line_194 : decode cX12_line 194 = .ok (.bipush 11, 2) := by decide +kernel
theorem dX12_line_196 : decode cX12_line 196 = .ok (.iload_n 2, 1) := by decide +kernel
theorem dX12_line_197 : decode cX12_line 197 = .ok (.iadd, 1) := by decide +kernel
theorem dX12_line_198 : decode cX12_line 198 = .ok (.iconst 0, 1) := by decide +kernel
theorem dX12_line_199 : decode cX12_line 199 = .ok (.bipush 99, 2) := by decide +kernel
theorem dX12_line_201 : decode cX12_line 201 = .ok (.invokevirtual 203, 3) := by decide +kernel
theorem dX12_line_204 : decode cX12_line 204 = .ok (.goto 14, 3) := by decide +kernel
theorem dX12_line_207 : decode cX12_line 207 = .ok (.aload_n 0, 1) := by decide +kernel
theorem dX12_line_208 : decode cX12_line 208 = .ok (.bipush 20, 2) := by decide +kernel
theorem dX12_line_210 : decode cX12_line 210 = .ok (.iload_n 2, 1) := by decide +kernel
theorem dX12_line_211 : decode cX12_line 211 = .ok (.iadd, 1) := by decide +kernel
theorem dX12_line_212 : decode cX12_line 212 = .ok (.iconst 1, 1) := by decide +kernel
theorem dX12_line_213 : decode cX12_line 213 = .ok (.bipush 9, 2) := by decide +kernel
theorem dX12_line_215 : decode cX12_line 215 = .ok (.invokevirtual 203, 3) := by decide +kernel
theorem dX12_line_218 : decode cX12_line 218 = .ok (.ireturn, 1) := by decide +kernel
theorem dX12_line_219 : decode cX12_line 219 = .ok (.aload_n 0, 1) := by decide +kernel
theorem dX12_line_220 : decode cX12_line 220 = .ok (.ldc2_w 91, 3) := by decide +kernel
theorem dX12_line_223 : decode cX12_line 223 = .ok (.invokevirtual 196, 3) := by decide +kernel
theorem dX12_line_226 : decode cX12_line 226 = .ok (.ifCond .eq 7, 3) := by decide +kernel
theorem dX12_line_229 : decode cX12_line 229 = .ok (.iconst 0, 1) := by decide +kernel
theorem dX12_line_230 : decode cX12_line 230 = .ok (.goto 32, 3) := by decide +kernel
theorem dX12_line_233 : decode cX12_line 233 = .ok (.aload_n 0, 1) := by decide +kernel
theorem dX12_line_234 : decode cX12_line 234 = .ok (.ldc2_w 93, 3) := by decide +kernel
theorem dX12_line_237 : decode cX12_line 237 = .ok (.invokevirtual 196, 3) := by decide +kernel
theorem dX12_line_240 : decode cX12_line 240 = .ok (.ifCond .eq 7, 3) := by decide +kernel
theorem dX12_line_243 : decode cX12_line 243 = .ok (.iconst 1, 1) := by decide +kernel
theorem dX12_line_244 : decode cX12_line 244 = .ok (.goto 18, 3) := by decide +kernel
theorem dX12_line_247 : decode cX12_line 247 = .ok (.aload_n 0, 1) := by decide +kernel
theorem dX12_line_248 : decode cX12_line 248 = .ok (.ldc2_w 95, 3) := by decide +kernel
theorem dX12_line_251 : decode cX12_line 251 = .ok (.invokevirtual 196, 3) := by decide +kernel
theorem dX12_line_254 : decode cX12_line 254 = .ok (.ifCond .eq 7, 3) := by decide +kernel
theorem dX12_line_257 : decode cX12_line 257 = .ok (.iconst 2, 1) := by decide +kernel
theorem dX12_line_258 : decode cX12_line 258 = .ok (.goto 4, 3) := by decide +kernel
theorem dX12_line_261 : decode cX12_line 261 = .ok (.iconst (-1), 1) := by decide +kernel
theorem dX12_line_262 : decode cX12_line 262 = .ok (.istore_n 2, 1) := by decide +kernel
theorem dX12_line_263 : decode cX12_line 263 = .ok (.iload_n 2, 1) := by decide +kernel
theorem dX12_line_264 : decode cX12_line 264 = .ok (.ifCond .ge 9, 3) := by decide +kernel
theorem dX12_line_267 : decode cX12_line 267 = .ok (.aload_n 0, 1) := by decide +kernel
theorem dX12_line_268 : decode cX12_line 268 = .ok (.iconst 1, 1) := by decide +kernel
theorem dX12_line_269 : decode cX12_line 269 = .ok (.invokevirtual 171, 3) := by decide +kernel
theorem dX12_line_272 : decode cX12_line 272 = .ok (.ireturn, 1) := by decide +kernel
theorem dX12_line_273 : decode cX12_line 273 = .ok (.aload_n 0, 1) := by decide +kernel
theorem dX12_line_274 : decode cX12_line 274 = .ok (.invokevirtual 174, 3) := by decide +kernel
theorem dX12_line_277 : decode cX12_line 277 = .ok (.aload_n 0, 1) := by decide +kernel
theorem dX12_line_278 : decode cX12_line 278 = .ok (.bipush 27, 2) := by decide +kernel
theorem dX12_line_280 : decode cX12_line 280 = .ok (.aload_n 0, 1) := by decide +kernel
theorem dX12_line_281 : decode cX12_line 281 = .ok (.getfield 37, 3) := by decide +kernel
theorem dX12_line_284 : decode cX12_line 284 = .ok (.iconst 1, 1) := by decide +kernel
theorem dX12_line_285 : decode cX12_line 285 = .ok (.iaload, 1) := by decide +kernel
theorem dX12_line_286 : decode cX12_line 286 = .ok (.invokevirtual 209, 3) := by decide +kernel
theorem dX12_line_289 : decode cX12_line 289 = .ok (.ifCond .ne 5, 3) := by decide +kernel
theorem dX12_line_292 : decode cX12_line 292 = .ok (.iconst 0, 1) := by decide +kernel
theorem dX12_line_293 : decode cX12_line 293 = .ok (.ireturn, 1) := by decide +kernel
theorem dX12_line_294 : decode cX12_line 294 = .ok (.aload_n 0, 1) := by decide +kernel
theorem dX12_line_295 : decode cX12_line 295 = .ok (.getfield 181, 3) := by decide +kernel
theorem dX12_line_298 : decode cX12_line 298 = .ok (.istore_n 3, 1) := by decide +kernel
theorem dX12_line_299 : decode cX12_line 299 = .ok (.iload_n 2, 1) := by decide +kernel
theorem dX12_line_300 : decode cX12_line 300 = .ok (.ifCond .ne 15, 3) := by decide +kernel
theorem dX12_line_303 : decode cX12_line 303 = .ok (.aload_n 0, 1) := by decide +kernel
theorem dX12_line_304 : decode cX12_line 304 = .ok (.getfield 37, 3) := by decide +kernel
theorem dX12_line_307 : decode cX12_line 307 = .ok (.bipush 47, 2) := by decide +kernel
theorem dX12_line_309 : decode cX12_line 309 = .ok (.iload_n 3, 1) := by decide +kernel
theorem dX12_line_310 : decode cX12_line 310 = .ok (.iadd, 1) := by decide +kernel
theorem dX12_line_311 : decode cX12_line 311 = .ok (.iaload, 1) := by decide +kernel
theorem dX12_line_312 : decode cX12_line 312 = .ok (.ifCond .gt 21, 3) := by decide +kernel
theorem dX12_line_315 : decode cX12_line 315 = .ok (.iload_n 2, 1) := by decide +kernel
theorem dX12_line_316 : decode cX12_line 316 = .ok (.iconst 2, 1) := by decide +kernel
theorem dX12_line_317 : decode cX12_line 317 = .ok (.if_icmp .ne 22, 3) := by decide +kernel
theorem dX12_line_320 : decode cX12_line 320 = .ok (.aload_n 0, 1) := by decide +kernel
theorem dX12_line_321 : decode cX12_line 321 = .ok (.getfield 37, 3) := by decide +kernel
theorem dX12_line_324 : decode cX12_line 324 = .ok (.sipush 137, 3) := by decide +kernel
theorem dX12_line_327 : decode cX12_line 327 = .ok (.iload_n 3, 1) := by decide +kernel
theorem dX12_line_328 : decode cX12_line 328 = .ok (.iadd, 1) := by decide +kernel
theorem dX12_line_329 : decode cX12_line 329 = .ok (.iaload, 1) := by decide +kernel
theorem dX12_line_330 : decode cX12_line 330 = .ok (.ifCond .le 9, 3) := by decide +kernel
theorem dX12_line_333 : decode cX12_line 333 = .ok (.aload_n 0, 1) := by decide +kernel
theorem dX12_line_334 : decode cX12_line 334 = .ok (.iconst 3, 1) := by decide +kernel
theorem dX12_line_335 : decode cX12_line 335 = .ok (.invokevirtual 171, 3) := by decide +kernel
theorem dX12_line_338 : decode cX12_line 338 = .ok (.ireturn, 1) := by decide +kernel
theorem dX12_line_339 : decode cX12_line 339 = .ok (.aload_n 0, 1) := by decide +kernel
theorem dX12_line_340 : decode cX12_line 340 = .ok (.invokevirtual 174, 3) := by decide +kernel
theorem dX12_line_343 : decode cX12_line 343 = .ok (.iload_n 2, 1) := by decide +kernel
theorem dX12_line_344 : decode cX12_line 344 = .ok (.iconst 2, 1) := by decide +kernel
theorem dX12_line_345 : decode cX12_line 345 = .ok (.if_icmp .ne 34, 3) := by decide +kernel
theorem dX12_line_348 : decode cX12_line 348 = .ok (.aload_n 0, 1) := by decide +kernel
theorem dX12_line_349 : decode cX12_line 349 = .ok (.iconst 0, 1) := by decide +kernel
theorem dX12_line_350 : decode cX12_line 350 = .ok (.sipush 199, 3) := by decide +kernel
theorem dX12_line_353 : decode cX12_line 353 = .ok (.invokevirtual 184, 3) := by decide +kernel
theorem dX12_line_356 : decode cX12_line 356 = .ok (.ifCond .ne 5, 3) := by decide +kernel
theorem dX12_line_359 : decode cX12_line 359 = .ok (.iconst 0, 1) := by decide +kernel
theorem dX12_line_360 : decode cX12_line 360 = .ok (.ireturn, 1) := by decide +kernel
theorem dX12_line_361 : decode cX12_line 361 = .ok (.aload_n 0, 1) := by decide +kernel
theorem dX12_line_362 : decode cX12_line 362 = .ok (.getfield 37, 3) := by decide +kernel
theorem dX12_line_365 : decode cX12_line 365 = .ok (.sipush 137, 3) := by decide +kernel
theorem dX12_line_368 : decode cX12_line 368 = .ok (.iload_n 3, 1) := by decide +kernel
theorem dX12_line_369 : decode cX12_line 369 = .ok (.iadd, 1) := by decide +kernel
theorem dX12_line_370 : decode cX12_line 370 = .ok (.aload_n 0, 1) := by decide +kernel
theorem dX12_line_371 : decode cX12_line 371 = .ok (.getfield 181, 3) := by decide +kernel
