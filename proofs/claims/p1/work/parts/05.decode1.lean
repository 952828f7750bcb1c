theorem dJ0_charAt_5068e_0 : decode cJ0_charAt_5068e 0 = .ok (.aload_n 0, 1) := by decide +kernel
theorem dJ0_charAt_5068e_1 : decode cJ0_charAt_5068e 1 = .ok (.invokevirtual 492, 3) := by decide +kernel
theorem dJ0_charAt_5068e_4 : decode cJ0_charAt_5068e 4 = .ok (.ifCond .eq 12, 3) := by decide +kernel
theorem dJ0_charAt_5068e_7 : decode cJ0_charAt_5068e 7 = .ok (.aload_n 0, 1) := by decide +kernel
theorem dJ0_charAt_5068e_8 : decode cJ0_charAt_5068e 8 = .ok (.getfield 9, 3) := by decide +kernel
theorem dJ0_charAt_5068e_11 : decode cJ0_charAt_5068e 11 = .ok (.iload_n 1, 1) := by decide +kernel
theorem dJ0_charAt_5068e_12 : decode cJ0_charAt_5068e 12 = .ok (.invokestatic 495, 3) := by decide +kernel
theorem dJ0_charAt_5068e_15 : decode cJ0_charAt_5068e 15 = .ok (.ireturn, 1) := by decide +kernel
theorem dJ0_checkIndex_df160_0 : decode cJ0_checkIndex_df160 0 = .ok (.iload_n 0, 1) := by decide +kernel
theorem dJ0_checkIndex_df160_1 : decode cJ0_checkIndex_df160 1 = .ok (.iload_n 1, 1) := by decide +kernel
theorem dJ0_checkIndex_df160_2 : decode cJ0_checkIndex_df160 2 = .ok (.getstatic 1053, 3) := by decide +kernel
theorem dJ0_checkIndex_df160_5 : decode cJ0_checkIndex_df160 5 = .ok (.invokestatic 1059, 3) := by decide +kernel
theorem dJ0_checkIndex_df160_8 : decode cJ0_checkIndex_df160 8 = .ok (.pop, 1) := by decide +kernel
theorem dJ0_checkIndex_df160_9 : decode cJ0_checkIndex_df160 9 = .ok (.return_, 1) := by decide +kernel
theorem dJ0_coder_7d493_0 : decode cJ0_coder_7d493 0 = .ok (.getstatic 38, 3) := by decide +kernel
theorem dJ0_coder_7d493_3 : decode cJ0_coder_7d493 3 = .ok (.ifCond .eq 10, 3) := by decide +kernel
theorem dJ0_coder_7d493_6 : decode cJ0_coder_7d493 6 = .ok (.aload_n 0, 1) := by decide +kernel
theorem dJ0_coder_7d493_7 : decode cJ0_coder_7d493 7 = .ok (.getfield 15, 3) := by decide +kernel
theorem dJ0_coder_7d493_10 : decode cJ0_coder_7d493 10 = .ok (.goto 4, 3) := by decide +kernel
theorem dJ0_coder_7d493_14 : decode cJ0_coder_7d493 14 = .ok (.ireturn, 1) := by decide +kernel
theorem dJ0_isLatin1_aae02_0 : decode cJ0_isLatin1_aae02 0 = .ok (.getstatic 38, 3) := by decide +kernel
theorem dJ0_isLatin1_aae02_3 : decode cJ0_isLatin1_aae02 3 = .ok (.ifCond .eq 14, 3) := by decide +kernel
theorem dJ0_isLatin1_aae02_6 : decode cJ0_isLatin1_aae02 6 = .ok (.aload_n 0, 1) := by decide +kernel
theorem dJ0_isLatin1_aae02_7 : decode cJ0_isLatin1_aae02 7 = .ok (.getfield 15, 3) := by decide +kernel
theorem dJ0_isLatin1_aae02_10 : decode cJ0_isLatin1_aae02 10 = .ok (.ifCond .ne 7, 3) := by decide +kernel
theorem dJ0_isLatin1_aae02_13 : decode cJ0_isLatin1_aae02 13 = .ok (.iconst 1, 1) := by decide +kernel
theorem dJ0_isLatin1_aae02_14 : decode cJ0_isLatin1_aae02 14 = .ok (.goto 4, 3) := by decide +kernel
theorem dJ0_isLatin1_aae02_18 : decode cJ0_isLatin1_aae02 18 = .ok (.ireturn, 1) := by decide +kernel
theorem dJ0_length_8abf5_0 : decode cJ0_length_8abf5 0 = .ok (.aload_n 0, 1) := by decide +kernel
theorem dJ0_length_8abf5_1 : decode cJ0_length_8abf5 1 = .ok (.getfield 9, 3) := by decide +kernel
theorem dJ0_length_8abf5_4 : decode cJ0_length_8abf5 4 = .ok (.arraylength, 1) := by decide +kernel
theorem dJ0_length_8abf5_5 : decode cJ0_length_8abf5 5 = .ok (.aload_n 0, 1) := by decide +kernel
theorem dJ0_length_8abf5_6 : decode cJ0_length_8abf5 6 = .ok (.invokevirtual 335, 3) := by decide +kernel
theorem dJ0_length_8abf5_9 : decode cJ0_length_8abf5 9 = .ok (.ishr, 1) := by decide +kernel
theorem dJ0_length_8abf5_10 : decode cJ0_length_8abf5 10 = .ok (.ireturn, 1) := by decide +kernel
theorem dJ1_charAt_3b067_0 : decode cJ1_charAt_3b067 0 = .ok (.iload_n 1, 1) := by decide +kernel
theorem dJ1_charAt_3b067_1 : decode cJ1_charAt_3b067 1 = .ok (.aload_n 0, 1) := by decide +kernel
theorem dJ1_charAt_3b067_2 : decode cJ1_charAt_3b067 2 = .ok (.arraylength, 1) := by decide +kernel
theorem dJ1_charAt_3b067_3 : decode cJ1_charAt_3b067 3 = .ok (.invokestatic 9, 3) := by decide +kernel
theorem dJ1_charAt_3b067_6 : decode cJ1_charAt_3b067 6 = .ok (.aload_n 0, 1) := by decide +kernel
theorem dJ1_charAt_3b067_7 : decode cJ1_charAt_3b067 7 = .ok (.iload_n 1, 1) := by decide +kernel
theorem dJ1_charAt_3b067_8 : decode cJ1_charAt_3b067 8 = .ok (.baload, 1) := by decide +kernel
theorem dJ1_charAt_3b067_9 : decode cJ1_charAt_3b067 9 = .ok (.sipush 255, 3) := by decide +kernel
theorem dJ1_charAt_3b067_12 : decode cJ1_charAt_3b067 12 = .ok (.iand, 1) := by decide +kernel
theorem dJ1_charAt_3b067_13 : decode cJ1_charAt_3b067 13 = .ok (.i2c, 1) := by decide +kernel
theorem dJ1_charAt_3b067_14 : decode cJ1_charAt_3b067 14 = .ok (.ireturn, 1) := by decide +kernel
theorem dJ3_checkIndex_8e157_0 : decode cJ3_checkIndex_8e157 0 = .ok (.iload_n 0, 1) := by decide +kernel
theorem dJ3_checkIndex_8e157_1 : decode cJ3_checkIndex_8e157 1 = .ok (.ifCond .lt 8, 3) := by decide +kernel
theorem dJ3_checkIndex_8e157_4 : decode cJ3_checkIndex_8e157 4 = .ok (.iload_n 0, 1) := by decide +kernel
theorem dJ3_checkIndex_8e157_5 : decode cJ3_checkIndex_8e157 5 = .ok (.iload_n 1, 1) := by decide +kernel
theorem dJ3_checkIndex_8e157_6 : decode cJ3_checkIndex_8e157 6 = .ok (.if_icmp .lt 10, 3) := by decide +kernel
theorem dJ3_checkIndex_8e157_16 : decode cJ3_checkIndex_8e157 16 = .ok (.iload_n 0, 1) := by decide +kernel
theorem dJ3_checkIndex_8e157_17 : decode cJ3_checkIndex_8e157 17 = .ok (.ireturn, 1) := by decide +kernel
theorem dX0_init_0 : decode cX0_init 0 = .ok (.aload_n 0, 1) := by decide +kernel
theorem dX0_init_1 : decode cX0_init 1 = .ok (.invokespecial 1, 3) := by decide +kernel
theorem dX0_init_4 : decode cX0_init 4 = .ok (.return_, 1) := by decide +kernel
theorem dX10_findMondays_0 : decode cX10_findMondays 0 = .ok (.aload_n 0, 1) := by decide +kernel
theorem dX10_findMondays_1 : decode cX10_findMondays 1 = .ok (.iconst 0, 1) := by decide +kernel
theorem dX10_findMondays_2 : decode cX10_findMondays 2 = .ok (.putfield 26, 3) := by decide +kernel
theorem dX10_findMondays_5 : decode cX10_findMondays 5 = .ok (.aload_n 0, 1) := by decide +kernel
theorem dX10_findMondays_6 : decode cX10_findMondays 6 = .ok (.invokevirtual 30, 3) := by decide +kernel
theorem dX10_findMondays_9 : decode cX10_findMondays 9 = .ok (.ifCond .ne 5, 3) := by decide +kernel
theorem dX10_findMondays_14 : decode cX10_findMondays 14 = .ok (.iconst 0, 1) := by decide +kernel
theorem dX10_findMondays_15 : decode cX10_findMondays 15 = .ok (.istore_n 1, 1) := by decide +kernel
theorem dX10_findMondays_16 : decode cX10_findMondays 16 = .ok (.iconst 0, 1) := by decide +kernel
theorem dX10_findMondays_17 : decode cX10_findMondays 17 = .ok (.istore_n 2, 1) := by decide +kernel
theorem dX10_findMondays_18 : decode cX10_findMondays 18 = .ok (.iload_n 2, 1) := by decide +kernel
theorem dX10_findMondays_19 : decode cX10_findMondays 19 = .ok (.aload_n 0, 1) := by decide +kernel
theorem dX10_findMondays_20 : decode cX10_findMondays 20 = .ok (.getfield 18, 3) := by decide +kernel
theorem dX10_findMondays_23 : decode cX10_findMondays 23 = .ok (.getfield 34, 3) := by decide +kernel
theorem dX10_findMondays_26 : decode cX10_findMondays 26 = .ok (.if_icmp .ge 19, 3) := by decide +kernel
theorem dX10_findMondays_45 : decode cX10_findMondays 45 = .ok (.iload_n 1, 1) := by decide +kernel
theorem dX10_findMondays_46 : decode cX10_findMondays 46 = .ok (.iconst 1, 1) := by decide +kernel
theorem dX10_findMondays_47 : decode cX10_findMondays 47 = .ok (.if_icmp .ne 7, 3) := by decide +kernel
theorem dX10_findMondays_54 : decode cX10_findMondays 54 = .ok (.iload_n 1, 1) := by decide +kernel
theorem dX10_findMondays_55 : decode cX10_findMondays 55 = .ok (.ireturn, 1) := by decide +kernel
theorem dX10_findSwaps_0 : decode cX10_findSwaps 0 = .ok (.aload_n 0, 1) := by decide +kernel
theorem dX10_findSwaps_1 : decode cX10_findSwaps 1 = .ok (.invokevirtual 30, 3) := by decide +kernel
theorem dX10_findSwaps_4 : decode cX10_findSwaps 4 = .ok (.ifCond .ne 5, 3) := by decide +kernel
theorem dX10_findSwaps_9 : decode cX10_findSwaps 9 = .ok (.iconst 0, 1) := by decide +kernel
theorem dX10_findSwaps_10 : decode cX10_findSwaps 10 = .ok (.istore_n 1, 1) := by decide +kernel
theorem dX10_findSwaps_11 : decode cX10_findSwaps 11 = .ok (.iconst 0, 1) := by decide +kernel
theorem dX10_findSwaps_12 : decode cX10_findSwaps 12 = .ok (.istore_n 2, 1) := by decide +kernel
theorem dX10_findSwaps_13 : decode cX10_findSwaps 13 = .ok (.iload_n 2, 1) := by decide +kernel
theorem dX10_findSwaps_14 : decode cX10_findSwaps 14 = .ok (.aload_n 0, 1) := by decide +kernel
theorem dX10_findSwaps_15 : decode cX10_findSwaps 15 = .ok (.getfield 18, 3) := by decide +kernel
theorem dX10_findSwaps_18 : decode cX10_findSwaps 18 = .ok (.getfield 34, 3) := by decide +kernel
theorem dX10_findSwaps_21 : decode cX10_findSwaps 21 = .ok (.if_icmp .ge 30, 3) := by decide +kernel
theorem dX10_findSwaps_51 : decode cX10_findSwaps 51 = .ok (.iload_n 1, 1) := by decide +kernel
theorem dX10_findSwaps_52 : decode cX10_findSwaps 52 = .ok (.ireturn, 1) := by decide +kernel
theorem dX10_init_0 : decode cX10_init 0 = .ok (.aload_n 0, 1) := by decide +kernel
theorem dX10_init_1 : decode cX10_init 1 = .ok (.invokespecial 3, 3) := by decide +kernel
theorem dX10_init_4 : decode cX10_init 4 = .ok (.aload_n 0, 1) := by decide +kernel
theorem dX10_init_5 : decode cX10_init 5 = .ok (.bipush 9, 2) := by decide +kernel
theorem dX10_init_7 : decode cX10_init 7 = .ok (.newarray .int, 2) := by decide +kernel
theorem dX10_init_9 : decode cX10_init 9 = .ok (.putfield 9, 3) := by decide +kernel
theorem dX10_init_12 : decode cX10_init 12 = .ok (.aload_n 0, 1) := by decide +kernel
theorem dX10_init_13 : decode cX10_init 13 = .ok (.bipush 9, 2) := by decide +kernel
theorem dX10_init_15 : decode cX10_init 15 = .ok (.newarray .int, 2) := by decide +kernel
theorem dX10_init_17 : decode cX10_init 17 = .ok (.putfield 15, 3) := by decide +kernel
theorem dX10_init_20 : decode cX10_init 20 = .ok (.aload_n 0, 1) := by decide +kernel
theorem dX10_init_21 : decode cX10_init 21 = .ok (.aload_n 1, 1) := by decide +kernel
theorem dX10_init_22 : decode cX10_init 22 = .ok (.putfield 18, 3) := by decide +kernel
theorem dX10_init_25 : decode cX10_init 25 = .ok (.aload_n 0, 1) := by decide +kernel
theorem dX10_init_26 : decode cX10_init 26 = .ok (.aload_n 2, 1) := by decide +kernel
theorem dX10_init_27 : decode cX10_init 27 = .ok (.putfield 22, 3) := by decide +kernel
theorem dX10_init_30 : decode cX10_init 30 = .ok (.return_, 1) := by decide +kernel
theorem dX10_point_0 : decode cX10_point 0 = .ok (.iconst 0, 1) := by decide +kernel
theorem dX10_point_1 : decode cX10_point 1 = .ok (.istore_n 1, 1) := by decide +kernel
theorem dX10_point_2 : decode cX10_point 2 = .ok (.iconst 0, 1) := by decide +kernel
theorem dX10_point_3 : decode cX10_point 3 = .ok (.istore_n 2, 1) := by decide +kernel
theorem dX10_point_4 : decode cX10_point 4 = .ok (.iload_n 2, 1) := by decide +kernel
theorem dX10_point_5 : decode cX10_point 5 = .ok (.aload_n 0, 1) := by decide +kernel
theorem dX10_point_6 : decode cX10_point 6 = .ok (.getfield 18, 3) := by decide +kernel
theorem dX10_point_9 : decode cX10_point 9 = .ok (.getfield 34, 3) := by decide +kernel
theorem dX10_point_12 : decode cX10_point 12 = .ok (.if_icmp .ge 105, 3) := by decide +kernel
theorem dX10_point_117 : decode cX10_point 117 = .ok (.iconst 1, 1) := by decide +kernel
theorem dX10_point_118 : decode cX10_point 118 = .ok (.ireturn, 1) := by decide +kernel
theorem dX11_areTwo_0 : decode cX11_areTwo 0 = .ok (.aload_n 0, 1) := by decide +kernel
theorem dX11_areTwo_1 : decode cX11_areTwo 1 = .ok (.getfield 19, 3) := by decide +kernel
theorem dX11_areTwo_4 : decode cX11_areTwo 4 = .ok (.iload_n 1, 1) := by decide +kernel
theorem dX11_areTwo_5 : decode cX11_areTwo 5 = .ok (.invokevirtual 169, 3) := by decide +kernel
theorem dX11_areTwo_8 : decode cX11_areTwo 8 = .ok (.ifCond .eq 23, 3) := by decide +kernel
theorem dX11_areTwo_31 : decode cX11_areTwo 31 = .ok (.iconst 0, 1) := by decide +kernel
theorem dX11_areTwo_32 : decode cX11_areTwo 32 = .ok (.ireturn, 1) := by decide +kernel
theorem dX11_bearers_0 : decode cX11_bearers 0 = .ok (.aload_n 0, 1) := by decide +kernel
theorem dX11_bearers_1 : decode cX11_bearers 1 = .ok (.getfield 19, 3) := by decide +kernel
theorem dX11_bearers_4 : decode cX11_bearers 4 = .ok (.iload_n 1, 1) := by decide +kernel
theorem dX11_bearers_5 : decode cX11_bearers 5 = .ok (.invokevirtual 143, 3) := by decide +kernel
theorem dX11_bearers_8 : decode cX11_bearers 8 = .ok (.ifCond .ne 5, 3) := by decide +kernel
theorem dX11_bearers_11 : decode cX11_bearers 11 = .ok (.iconst (-1), 1) := by decide +kernel
theorem dX11_bearers_12 : decode cX11_bearers 12 = .ok (.ireturn, 1) := by decide +kernel
theorem dX11_bid_0 : decode cX11_bid 0 = .ok (.aload_n 0, 1) := by decide +kernel
theorem dX11_bid_1 : decode cX11_bid 1 = .ok (.getfield 19, 3) := by decide +kernel
theorem dX11_bid_4 : decode cX11_bid 4 = .ok (.iload_n 1, 1) := by decide +kernel
theorem dX11_bid_5 : decode cX11_bid 5 = .ok (.invokevirtual 143, 3) := by decide +kernel
theorem dX11_bid_8 : decode cX11_bid 8 = .ok (.ifCond .eq 25, 3) := by decide +kernel
theorem dX11_bid_33 : decode cX11_bid 33 = .ok (.iconst (-1), 1) := by decide +kernel
theorem dX11_bid_34 : decode cX11_bid 34 = .ok (.ireturn, 1) := by decide +kernel
theorem dX11_bidder_0 : decode cX11_bidder 0 = .ok (.aload_n 0, 1) := by decide +kernel
theorem dX11_bidder_1 : decode cX11_bidder 1 = .ok (.getfield 19, 3) := by decide +kernel
theorem dX11_bidder_4 : decode cX11_bidder 4 = .ok (.iload_n 1, 1) := by decide +kernel
theorem dX11_bidder_5 : decode cX11_bidder 5 = .ok (.invokevirtual 143, 3) := by decide +kernel
theorem dX11_bidder_8 : decode cX11_bidder 8 = .ok (.ifCond .eq 14, 3) := by decide +kernel
theorem dX11_bidder_22 : decode cX11_bidder 22 = .ok (.iconst (-1), 1) := by decide +kernel
theorem dX11_bidder_23 : decode cX11_bidder 23 = .ok (.ireturn, 1) := by decide +kernel
theorem dX11_called_0 : decode cX11_called 0 = .ok (.aload_n 0, 1) := by decide +kernel
theorem dX11_called_1 : decode cX11_called 1 = .ok (.getfield 19, 3) := by decide +kernel
theorem dX11_called_4 : decode cX11_called 4 = .ok (.iload_n 1, 1) := by decide +kernel
theorem dX11_called_5 : decode cX11_called 5 = .ok (.invokevirtual 169, 3) := by decide +kernel
theorem dX11_called_8 : decode cX11_called 8 = .ok (.ifCond .eq 26, 3) := by decide +kernel
theorem dX11_called_34 : decode cX11_called 34 = .ok (.bipush (-2), 2) := by decide +kernel
theorem dX11_called_36 : decode cX11_called 36 = .ok (.ireturn, 1) := by decide +kernel
theorem dX11_cheapest_0 : decode cX11_cheapest 0 = .ok (.aload_n 0, 1) := by decide +kernel
theorem dX11_cheapest_1 : decode cX11_cheapest 1 = .ok (.getfield 83, 3) := by decide +kernel
theorem dX11_cheapest_4 : decode cX11_cheapest 4 = .ok (.getfield 313, 3) := by decide +kernel
theorem dX11_cheapest_7 : decode cX11_cheapest 7 = .ok (.ireturn, 1) := by decide +kernel
theorem dX11_copyRow_0 : decode cX11_copyRow 0 = .ok (.aload_n 0, 1) := by decide +kernel
theorem dX11_copyRow_1 : decode cX11_copyRow 1 = .ok (.iconst 0, 1) := by decide +kernel
theorem dX11_copyRow_2 : decode cX11_copyRow 2 = .ok (.aload_n 1, 1) := by decide +kernel
theorem dX11_copyRow_3 : decode cX11_copyRow 3 = .ok (.iconst 0, 1) := by decide +kernel
theorem dX11_copyRow_4 : decode cX11_copyRow 4 = .ok (.aload_n 0, 1) := by decide +kernel
theorem dX11_copyRow_5 : decode cX11_copyRow 5 = .ok (.arraylength, 1) := by decide +kernel
theorem dX11_copyRow_6 : decode cX11_copyRow 6 = .ok (.aload_n 1, 1) := by decide +kernel
theorem dX11_copyRow_7 : decode cX11_copyRow 7 = .ok (.arraylength, 1) := by decide +kernel
theorem dX11_copyRow_8 : decode cX11_copyRow 8 = .ok (.invokestatic 248, 3) := by decide +kernel
theorem dX11_copyRow_11 : decode cX11_copyRow 11 = .ok (.invokestatic 377, 3) := by decide +kernel
theorem dX11_copyRow_14 : decode cX11_copyRow 14 = .ok (.return_, 1) := by decide +kernel
theorem dX11_copyRow__0 : decode cX11_copyRow_ 0 = .ok (.aload_n 0, 1) := by decide +kernel
theorem dX11_copyRow__1 : decode cX11_copyRow_ 1 = .ok (.iconst 0, 1) := by decide +kernel
theorem dX11_copyRow__2 : decode cX11_copyRow_ 2 = .ok (.aload_n 1, 1) := by decide +kernel
theorem dX11_copyRow__3 : decode cX11_copyRow_ 3 = .ok (.iconst 0, 1) := by decide +kernel
theorem dX11_copyRow__4 : decode cX11_copyRow_ 4 = .ok (.aload_n 0, 1) := by decide +kernel
theorem dX11_copyRow__5 : decode cX11_copyRow_ 5 = .ok (.arraylength, 1) := by decide +kernel
theorem dX11_copyRow__6 : decode cX11_copyRow_ 6 = .ok (.aload_n 1, 1) := by decide +kernel
theorem dX11_copyRow__7 : decode cX11_copyRow_ 7 = .ok (.arraylength, 1) := by decide +kernel
theorem dX11_copyRow__8 : decode cX11_copyRow_ 8 = .ok (.invokestatic 248, 3) := by decide +kernel
theorem dX11_copyRow__11 : decode cX11_copyRow_ 11 = .ok (.invokestatic 377, 3) := by decide +kernel
theorem dX11_copyRow__14 : decode cX11_copyRow_ 14 = .ok (.return_, 1) := by decide +kernel
theorem dX11_count_0 : decode cX11_count 0 = .ok (.iload_n 1, 1) := by decide +kernel
theorem dX11_count_1 : decode cX11_count 1 = .ok (.tableswitch 51 0 2 #[27, 35, 43], 27) := by decide +kernel
theorem dX11_count_28 : decode cX11_count 28 = .ok (.aload_n 0, 1) := by decide +kernel
theorem dX11_count_29 : decode cX11_count 29 = .ok (.getfield 19, 3) := by decide +kernel
theorem dX11_count_32 : decode cX11_count 32 = .ok (.getfield 223, 3) := by decide +kernel
theorem dX11_count_35 : decode cX11_count 35 = .ok (.ireturn, 1) := by decide +kernel
theorem dX11_count_36 : decode cX11_count 36 = .ok (.aload_n 0, 1) := by decide +kernel
theorem dX11_count_37 : decode cX11_count 37 = .ok (.getfield 19, 3) := by decide +kernel
theorem dX11_count_40 : decode cX11_count 40 = .ok (.getfield 216, 3) := by decide +kernel
theorem dX11_count_43 : decode cX11_count 43 = .ok (.ireturn, 1) := by decide +kernel
theorem dX11_count_44 : decode cX11_count 44 = .ok (.aload_n 0, 1) := by decide +kernel
theorem dX11_count_45 : decode cX11_count 45 = .ok (.getfield 10, 3) := by decide +kernel
theorem dX11_count_48 : decode cX11_count 48 = .ok (.getfield 111, 3) := by decide +kernel
theorem dX11_count_51 : decode cX11_count 51 = .ok (.ireturn, 1) := by decide +kernel
theorem dX11_count_52 : decode cX11_count 52 = .ok (.iconst (-1), 1) := by decide +kernel
theorem dX11_count_53 : decode cX11_count 53 = .ok (.ireturn, 1) := by decide +kernel
theorem dX11_die_0 : decode cX11_die 0 = .ok (.aload_n 0, 1) := by decide +kernel
theorem dX11_die_1 : decode cX11_die 1 = .ok (.getfield 19, 3) := by decide +kernel
theorem dX11_die_4 : decode cX11_die 4 = .ok (.iload_n 1, 1) := by decide +kernel
theorem dX11_die_5 : decode cX11_die 5 = .ok (.invokevirtual 169, 3) := by decide +kernel
theorem dX11_die_8 : decode cX11_die 8 = .ok (.ifCond .eq 12, 3) := by decide +kernel
theorem dX11_die_20 : decode cX11_die 20 = .ok (.iconst (-1), 1) := by decide +kernel
theorem dX11_die_21 : decode cX11_die 21 = .ok (.ireturn, 1) := by decide +kernel
theorem dX11_drawn_0 : decode cX11_drawn 0 = .ok (.iload_n 1, 1) := by decide +kernel
theorem dX11_drawn_1 : decode cX11_drawn 1 = .ok (.iconst 1, 1) := by decide +kernel
theorem dX11_drawn_2 : decode cX11_drawn 2 = .ok (.if_icmp .lt 29, 3) := by decide +kernel
theorem dX11_drawn_5 : decode cX11_drawn 5 = .ok (.iload_n 1, 1) := by decide +kernel
theorem dX11_drawn_6 : decode cX11_drawn 6 = .ok (.bipush 60, 2) := by decide +kernel
theorem dX11_drawn_8 : decode cX11_drawn 8 = .ok (.if_icmp .gt 23, 3) := by decide +kernel
theorem dX11_drawn_11 : decode cX11_drawn 11 = .ok (.aload_n 0, 1) := by decide +kernel
theorem dX11_drawn_12 : decode cX11_drawn 12 = .ok (.getfield 19, 3) := by decide +kernel
theorem dX11_drawn_15 : decode cX11_drawn 15 = .ok (.getfield 216, 3) := by decide +kernel
theorem dX11_drawn_18 : decode cX11_drawn 18 = .ok (.ifCond .eq 13, 3) := by decide +kernel
theorem dX11_drawn_31 : decode cX11_drawn 31 = .ok (.iconst (-1), 1) := by decide +kernel
theorem dX11_drawn_32 : decode cX11_drawn 32 = .ok (.ireturn, 1) := by decide +kernel
theorem dX11_end_0 : decode cX11_end 0 = .ok (.iload_n 1, 1) := by decide +kernel
theorem dX11_end_1 : decode cX11_end 1 = .ok (.ifCond .lt 14, 3) := by decide +kernel
theorem dX11_end_4 : decode cX11_end 4 = .ok (.iload_n 1, 1) := by decide +kernel
theorem dX11_end_5 : decode cX11_end 5 = .ok (.aload_n 0, 1) := by decide +kernel
theorem dX11_end_6 : decode cX11_end 6 = .ok (.getfield 10, 3) := by decide +kernel
theorem dX11_end_9 : decode cX11_end 9 = .ok (.getfield 111, 3) := by decide +kernel
theorem dX11_end_12 : decode cX11_end 12 = .ok (.if_icmp .le 5, 3) := by decide +kernel
theorem dX11_end_15 : decode cX11_end 15 = .ok (.iconst 0, 1) := by decide +kernel
theorem dX11_end_16 : decode cX11_end 16 = .ok (.ireturn, 1) := by decide +kernel
theorem dX11_end_17 : decode cX11_end 17 = .ok (.aload_n 0, 1) := by decide +kernel
theorem dX11_end_18 : decode cX11_end 18 = .ok (.getfield 10, 3) := by decide +kernel
theorem dX11_end_21 : decode cX11_end 21 = .ok (.iload_n 1, 1) := by decide +kernel
theorem dX11_end_22 : decode cX11_end 22 = .ok (.putfield 111, 3) := by decide +kernel
theorem dX11_end_25 : decode cX11_end 25 = .ok (.iconst 1, 1) := by decide +kernel
theorem dX11_end_26 : decode cX11_end 26 = .ok (.ireturn, 1) := by decide +kernel
theorem dX11_fault_0 : decode cX11_fault 0 = .ok (.aload_n 0, 1) := by decide +kernel
theorem dX11_fault_1 : decode cX11_fault 1 = .ok (.getfield 122, 3) := by decide +kernel
theorem dX11_fault_4 : decode cX11_fault 4 = .ok (.ireturn, 1) := by decide +kernel
theorem dX11_feasts_0 : decode cX11_feasts 0 = .ok (.aload_n 0, 1) := by decide +kernel
theorem dX11_feasts_1 : decode cX11_feasts 1 = .ok (.getfield 19, 3) := by decide +kernel
theorem dX11_feasts_4 : decode cX11_feasts 4 = .ok (.iload_n 1, 1) := by decide +kernel
theorem dX11_feasts_5 : decode cX11_feasts 5 = .ok (.invokevirtual 143, 3) := by decide +kernel
theorem dX11_feasts_8 : decode cX11_feasts 8 = .ok (.ifCond .eq 14, 3) := by decide +kernel
theorem dX11_feasts_22 : decode cX11_feasts 22 = .ok (.iconst (-1), 1) := by decide +kernel
theorem dX11_feasts_23 : decode cX11_feasts 23 = .ok (.ireturn, 1) := by decide +kernel
theorem dX11_feed_0 : decode cX11_feed 0 = .ok (.aload_n 0, 1) := by decide +kernel
theorem dX11_feed_1 : decode cX11_feed 1 = .ok (.getfield 10, 3) := by decide +kernel
theorem dX11_feed_4 : decode cX11_feed 4 = .ok (.bipush 20, 2) := by decide +kernel
theorem dX11_feed_6 : decode cX11_feed 6 = .ok (.invokevirtual 103, 3) := by decide +kernel
theorem dX11_feed_9 : decode cX11_feed 9 = .ok (.ifCond .ne 5, 3) := by decide +kernel
theorem dX11_feed_14 : decode cX11_feed 14 = .ok (.aload_n 0, 1) := by decide +kernel
theorem dX11_feed_15 : decode cX11_feed 15 = .ok (.getfield 10, 3) := by decide +kernel
theorem dX11_feed_18 : decode cX11_feed 18 = .ok (.iload_n 1, 1) := by decide +kernel
theorem dX11_feed_19 : decode cX11_feed 19 = .ok (.invokevirtual 107, 3) := by decide +kernel
theorem dX11_feed_22 : decode cX11_feed 22 = .ok (.aload_n 0, 1) := by decide +kernel
theorem dX11_feed_23 : decode cX11_feed 23 = .ok (.getfield 10, 3) := by decide +kernel
theorem dX11_feed_26 : decode cX11_feed 26 = .ok (.iload_n 2, 1) := by decide +kernel
theorem dX11_feed_27 : decode cX11_feed 27 = .ok (.invokevirtual 107, 3) := by decide +kernel
theorem dX11_feed_30 : decode cX11_feed 30 = .ok (.aload_n 0, 1) := by decide +kernel
theorem dX11_feed_31 : decode cX11_feed 31 = .ok (.getfield 10, 3) := by decide +kernel
theorem dX11_feed_34 : decode cX11_feed 34 = .ok (.iload_n 3, 1) := by decide +kernel
theorem dX11_feed_35 : decode cX11_feed 35 = .ok (.invokevirtual 107, 3) := by decide +kernel
theorem dX11_feed_38 : decode cX11_feed 38 = .ok (.aload_n 0, 1) := by decide +kernel
theorem dX11_feed_39 : decode cX11_feed 39 = .ok (.getfield 10, 3) := by decide +kernel
theorem dX11_feed_42 : decode cX11_feed 42 = .ok (.iload 4, 2) := by decide +kernel
theorem dX11_feed_44 : decode cX11_feed 44 = .ok (.invokevirtual 107, 3) := by decide +kernel
theorem dX11_feed_47 : decode cX11_feed 47 = .ok (.aload_n 0, 1) := by decide +kernel
theorem dX11_feed_48 : decode cX11_feed 48 = .ok (.getfield 10, 3) := by decide +kernel
theorem dX11_feed_51 : decode cX11_feed 51 = .ok (.iload 5, 2) := by decide +kernel
theorem dX11_feed_53 : decode cX11_feed 53 = .ok (.invokevirtual 107, 3) := by decide +kernel
theorem dX11_feed_56 : decode cX11_feed 56 = .ok (.aload_n 0, 1) := by decide +kernel
theorem dX11_feed_57 : decode cX11_feed 57 = .ok (.getfield 10, 3) := by decide +kernel
theorem dX11_feed_60 : decode cX11_feed 60 = .ok (.getfield 111, 3) := by decide +kernel
theorem dX11_feed_63 : decode cX11_feed 63 = .ok (.ireturn, 1) := by decide +kernel
theorem dX11_flee_0 : decode cX11_flee 0 = .ok (.aload_n 0, 1) := by decide +kernel
theorem dX11_flee_1 : decode cX11_flee 1 = .ok (.getfield 19, 3) := by decide +kernel
theorem dX11_flee_4 : decode cX11_flee 4 = .ok (.iload_n 1, 1) := by decide +kernel
theorem dX11_flee_5 : decode cX11_flee 5 = .ok (.invokevirtual 169, 3) := by decide +kernel
theorem dX11_flee_8 : decode cX11_flee 8 = .ok (.ifCond .eq 13, 3) := by decide +kernel
theorem dX11_flee_21 : decode cX11_flee 21 = .ok (.iconst (-1), 1) := by decide +kernel
theorem dX11_flee_22 : decode cX11_flee 22 = .ok (.ireturn, 1) := by decide +kernel
theorem dX11_holder_0 : decode cX11_holder 0 = .ok (.aload_n 0, 1) := by decide +kernel
theorem dX11_holder_1 : decode cX11_holder 1 = .ok (.getfield 19, 3) := by decide +kernel
theorem dX11_holder_4 : decode cX11_holder 4 = .ok (.iload_n 1, 1) := by decide +kernel
theorem dX11_holder_5 : decode cX11_holder 5 = .ok (.invokevirtual 143, 3) := by decide +kernel
theorem dX11_holder_8 : decode cX11_holder 8 = .ok (.ifCond .eq 26, 3) := by decide +kernel
theorem dX11_holder_34 : decode cX11_holder 34 = .ok (.bipush (-2), 2) := by decide +kernel
theorem dX11_holder_36 : decode cX11_holder 36 = .ok (.ireturn, 1) := by decide +kernel
theorem dX11_howLong_0 : decode cX11_howLong 0 = .ok (.aload_n 0, 1) := by decide +kernel
theorem dX11_howLong_1 : decode cX11_howLong 1 = .ok (.getfield 19, 3) := by decide +kernel
theorem dX11_howLong_4 : decode cX11_howLong 4 = .ok (.iload_n 1, 1) := by decide +kernel
theorem dX11_howLong_5 : decode cX11_howLong 5 = .ok (.invokevirtual 169, 3) := by decide +kernel
theorem dX11_howLong_8 : decode cX11_howLong 8 = .ok (.ifCond .eq 26, 3) := by decide +kernel
theorem dX11_howLong_34 : decode cX11_howLong 34 = .ok (.iconst (-1), 1) := by decide +kernel
theorem dX11_howLong_35 : decode cX11_howLong 35 = .ok (.ireturn, 1) := by decide +kernel
theorem dX11_image_0 : decode cX11_image 0 = .ok (.iload_n 1, 1) := by decide +kernel
theorem dX11_image_1 : decode cX11_image 1 = .ok (.ifCond .lt 8, 3) := by decide +kernel
theorem dX11_image_4 : decode cX11_image 4 = .ok (.iload_n 1, 1) := by decide +kernel
theorem dX11_image_5 : decode cX11_image 5 = .ok (.iconst 2, 1) := by decide +kernel
theorem dX11_image_6 : decode cX11_image 6 = .ok (.if_icmp .lt 5, 3) := by decide +kernel
theorem dX11_image_9 : decode cX11_image 9 = .ok (.iconst 0, 1) := by decide +kernel
theorem dX11_image_10 : decode cX11_image 10 = .ok (.ireturn, 1) := by decide +kernel
theorem dX11_image_11 : decode cX11_image 11 = .ok (.aload_n 0, 1) := by decide +kernel
theorem dX11_image_12 : decode cX11_image 12 = .ok (.getfield 96, 3) := by decide +kernel
theorem dX11_image_15 : decode cX11_image 15 = .ok (.iload_n 1, 1) := by decide +kernel
theorem dX11_image_16 : decode cX11_image 16 = .ok (.aaload, 1) := by decide +kernel
theorem dX11_image_17 : decode cX11_image 17 = .ok (.getfield 358, 3) := by decide +kernel
theorem dX11_image_20 : decode cX11_image 20 = .ok (.aload_n 0, 1) := by decide +kernel
theorem dX11_image_21 : decode cX11_image 21 = .ok (.getfield 19, 3) := by decide +kernel
theorem dX11_image_24 : decode cX11_image 24 = .ok (.invokevirtual 128, 3) := by decide +kernel
theorem dX11_image_27 : decode cX11_image 27 = .ok (.aload_n 0, 1) := by decide +kernel
theorem dX11_image_28 : decode cX11_image 28 = .ok (.getfield 96, 3) := by decide +kernel
theorem dX11_image_31 : decode cX11_image 31 = .ok (.iload_n 1, 1) := by decide +kernel
theorem dX11_image_32 : decode cX11_image 32 = .ok (.aaload, 1) := by decide +kernel
theorem dX11_image_33 : decode cX11_image 33 = .ok (.getfield 359, 3) := by decide +kernel
theorem dX11_image_36 : decode cX11_image 36 = .ok (.aload_n 0, 1) := by decide +kernel
theorem dX11_image_37 : decode cX11_image 37 = .ok (.getfield 40, 3) := by decide +kernel
theorem dX11_image_40 : decode cX11_image 40 = .ok (.invokevirtual 325, 3) := by decide +kernel
theorem dX11_image_43 : decode cX11_image 43 = .ok (.aload_n 0, 1) := by decide +kernel
theorem dX11_image_44 : decode cX11_image 44 = .ok (.getfield 96, 3) := by decide +kernel
theorem dX11_image_47 : decode cX11_image 47 = .ok (.iload_n 1, 1) := by decide +kernel
theorem dX11_image_48 : decode cX11_image 48 = .ok (.aaload, 1) := by decide +kernel
theorem dX11_image_49 : decode cX11_image 49 = .ok (.getfield 360, 3) := by decide +kernel
theorem dX11_image_52 : decode cX11_image 52 = .ok (.aload_n 0, 1) := by decide +kernel
theorem dX11_image_53 : decode cX11_image 53 = .ok (.getfield 64, 3) := by decide +kernel
theorem dX11_image_56 : decode cX11_image 56 = .ok (.invokevirtual 349, 3) := by decide +kernel
theorem dX11_image_59 : decode cX11_image 59 = .ok (.aload_n 0, 1) := by decide +kernel
theorem dX11_image_60 : decode cX11_image 60 = .ok (.getfield 96, 3) := by decide +kernel
theorem dX11_image_63 : decode cX11_image 63 = .ok (.iload_n 1, 1) := by decide +kernel
theorem dX11_image_64 : decode cX11_image 64 = .ok (.aaload, 1) := by decide +kernel
theorem dX11_image_65 : decode cX11_image 65 = .ok (.iconst 1, 1) := by decide +kernel
theorem dX11_image_66 : decode cX11_image 66 = .ok (.putfield 361, 3) := by decide +kernel
theorem dX11_image_69 : decode cX11_image 69 = .ok (.iconst 1, 1) := by decide +kernel
theorem dX11_image_70 : decode cX11_image 70 = .ok (.ireturn, 1) := by decide +kernel
theorem dX11_init_0 : decode cX11_init 0 = .ok (.aload_n 0, 1) := by decide +kernel
theorem dX11_init_1 : decode cX11_init 1 = .ok (.invokespecial 1, 3) := by decide +kernel
theorem dX11_init_4 : decode cX11_init 4 = .ok (.aload_n 0, 1) := by decide +kernel
theorem dX11_init_5 : decode cX11_init 5 = .ok (.new 7, 3) := by decide +kernel
theorem dX11_init_8 : decode cX11_init 8 = .ok (.dup, 1) := by decide +kernel
theorem dX11_init_9 : decode cX11_init 9 = .ok (.invokespecial 9, 3) := by decide +kernel
theorem dX11_init_12 : decode cX11_init 12 = .ok (.putfield 10, 3) := by decide +kernel
theorem dX11_init_15 : decode cX11_init 15 = .ok (.aload_n 0, 1) := by decide +kernel
theorem dX11_init_16 : decode cX11_init 16 = .ok (.new 16, 3) := by decide +kernel
theorem dX11_init_19 : decode cX11_init 19 = .ok (.dup, 1) := by decide +kernel
theorem dX11_init_20 : decode cX11_init 20 = .ok (.invokespecial 18, 3) := by decide +kernel
theorem dX11_init_23 : decode cX11_init 23 = .ok (.putfield 19, 3) := by decide +kernel
theorem dX11_init_26 : decode cX11_init 26 = .ok (.aload_n 0, 1) := by decide +kernel
theorem dX11_init_27 : decode cX11_init 27 = .ok (.new 16, 3) := by decide +kernel
theorem dX11_init_30 : decode cX11_init 30 = .ok (.dup, 1) := by decide +kernel
theorem dX11_init_31 : decode cX11_init 31 = .ok (.invokespecial 18, 3) := by decide +kernel
theorem dX11_init_34 : decode cX11_init 34 = .ok (.putfield 23, 3) := by decide +kernel
theorem dX11_init_37 : decode cX11_init 37 = .ok (.aload_n 0, 1) := by decide +kernel
theorem dX11_init_38 : decode cX11_init 38 = .ok (.new 26, 3) := by decide +kernel
theorem dX11_init_41 : decode cX11_init 41 = .ok (.dup, 1) := by decide +kernel
theorem dX11_init_42 : decode cX11_init 42 = .ok (.aload_n 0, 1) := by decide +kernel
theorem dX11_init_43 : decode cX11_init 43 = .ok (.getfield 10, 3) := by decide +kernel
theorem dX11_init_46 : decode cX11_init 46 = .ok (.aload_n 0, 1) := by decide +kernel
theorem dX11_init_47 : decode cX11_init 47 = .ok (.getfield 23, 3) := by decide +kernel
theorem dX11_init_50 : decode cX11_init 50 = .ok (.invokespecial 28, 3) := by decide +kernel
theorem dX11_init_53 : decode cX11_init 53 = .ok (.putfield 31, 3) := by decide +kernel
theorem dX11_init_56 : decode cX11_init 56 = .ok (.aload_n 0, 1) := by decide +kernel
theorem dX11_init_57 : decode cX11_init 57 = .ok (.new 35, 3) := by decide +kernel
theorem dX11_init_60 : decode cX11_init 60 = .ok (.dup, 1) := by decide +kernel
theorem dX11_init_61 : decode cX11_init 61 = .ok (.aload_n 0, 1) := by decide +kernel
theorem dX11_init_62 : decode cX11_init 62 = .ok (.getfield 19, 3) := by decide +kernel
theorem dX11_init_65 : decode cX11_init 65 = .ok (.invokespecial 37, 3) := by decide +kernel
theorem dX11_init_68 : decode cX11_init 68 = .ok (.putfield 40, 3) := by decide +kernel
theorem dX11_init_71 : decode cX11_init 71 = .ok (.aload_n 0, 1) := by decide +kernel
theorem dX11_init_72 : decode cX11_init 72 = .ok (.new 35, 3) := by decide +kernel
theorem dX11_init_75 : decode cX11_init 75 = .ok (.dup, 1) := by decide +kernel
theorem dX11_init_76 : decode cX11_init 76 = .ok (.aload_n 0, 1) := by decide +kernel
theorem dX11_init_77 : decode cX11_init 77 = .ok (.getfield 19, 3) := by decide +kernel
theorem dX11_init_80 : decode cX11_init 80 = .ok (.invokespecial 37, 3) := by decide +kernel
theorem dX11_init_83 : decode cX11_init 83 = .ok (.putfield 44, 3) := by decide +kernel
theorem dX11_init_86 : decode cX11_init 86 = .ok (.aload_n 0, 1) := by decide +kernel
theorem dX11_init_87 : decode cX11_init 87 = .ok (.new 47, 3) := by decide +kernel
theorem dX11_init_90 : decode cX11_init 90 = .ok (.dup, 1) := by decide +kernel
theorem dX11_init_91 : decode cX11_init 91 = .ok (.aload_n 0, 1) := by decide +kernel
theorem dX11_init_92 : decode cX11_init 92 = .ok (.getfield 19, 3) := by decide +kernel
theorem dX11_init_95 : decode cX11_init 95 = .ok (.invokespecial 49, 3) := by decide +kernel
theorem dX11_init_98 : decode cX11_init 98 = .ok (.putfield 50, 3) := by decide +kernel
theorem dX11_init_101 : decode cX11_init 101 = .ok (.aload_n 0, 1) := by decide +kernel
theorem dX11_init_102 : decode cX11_init 102 = .ok (.new 54, 3) := by decide +kernel
theorem dX11_init_105 : decode cX11_init 105 = .ok (.dup, 1) := by decide +kernel
theorem dX11_init_106 : decode cX11_init 106 = .ok (.aload_n 0, 1) := by decide +kernel
theorem dX11_init_107 : decode cX11_init 107 = .ok (.getfield 10, 3) := by decide +kernel
theorem dX11_init_110 : decode cX11_init 110 = .ok (.aload_n 0, 1) := by decide +kernel
theorem dX11_init_111 : decode cX11_init 111 = .ok (.getfield 19, 3) := by decide +kernel
theorem dX11_init_114 : decode cX11_init 114 = .ok (.invokespecial 56, 3) := by decide +kernel
theorem dX11_init_117 : decode cX11_init 117 = .ok (.putfield 57, 3) := by decide +kernel
theorem dX11_init_120 : decode cX11_init 120 = .ok (.aload_n 0, 1) := by decide +kernel
theorem dX11_init_121 : decode cX11_init 121 = .ok (.new 61, 3) := by decide +kernel
theorem dX11_init_124 : decode cX11_init 124 = .ok (.dup, 1) := by decide +kernel
theorem dX11_init_125 : decode cX11_init 125 = .ok (.aload_n 0, 1) := by decide +kernel
theorem dX11_init_126 : decode cX11_init 126 = .ok (.getfield 10, 3) := by decide +kernel
theorem dX11_init_129 : decode cX11_init 129 = .ok (.aload_n 0, 1) := by decide +kernel
theorem dX11_init_130 : decode cX11_init 130 = .ok (.getfield 19, 3) := by decide +kernel
theorem dX11_init_133 : decode cX11_init 133 = .ok (.invokespecial 63, 3) := by decide +kernel
theorem dX11_init_136 : decode cX11_init 136 = .ok (.putfield 64, 3) := by decide +kernel
theorem dX11_init_139 : decode cX11_init 139 = .ok (.aload_n 0, 1) := by decide +kernel
theorem dX11_init_140 : decode cX11_init 140 = .ok (.new 61, 3) := by decide +kernel
theorem dX11_init_143 : decode cX11_init 143 = .ok (.dup, 1) := by decide +kernel
theorem dX11_init_144 : decode cX11_init 144 = .ok (.aload_n 0, 1) := by decide +kernel
theorem dX11_init_145 : decode cX11_init 145 = .ok (.getfield 10, 3) := by decide +kernel
theorem dX11_init_148 : decode cX11_init 148 = .ok (.aload_n 0, 1) := by decide +kernel
theorem dX11_init_149 : decode cX11_init 149 = .ok (.getfield 19, 3) := by decide +kernel
