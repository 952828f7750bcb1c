theorem dX11_town_67 : decode cX11_town 67 = .ok (.getfield 64, 3) := by decide +kernel
theorem dX11_town_70 : decode cX11_town 70 = .ok (.iconst 0, 1) := by decide +kernel
theorem dX11_town_71 : decode cX11_town 71 = .ok (.putfield 137, 3) := by decide +kernel
theorem dX11_town_74 : decode cX11_town 74 = .ok (.aload_n 0, 1) := by decide +kernel
theorem dX11_town_75 : decode cX11_town 75 = .ok (.getfield 31, 3) := by decide +kernel
theorem dX11_town_78 : decode cX11_town 78 = .ok (.getfield 140, 3) := by decide +kernel
theorem dX11_town_81 : decode cX11_town 81 = .ok (.ireturn, 1) := by decide +kernel
theorem dX11_undo_0 : decode cX11_undo 0 = .ok (.aload_n 0, 1) := by decide +kernel
theorem dX11_undo_1 : decode cX11_undo 1 = .ok (.getfield 50, 3) := by decide +kernel
theorem dX11_undo_4 : decode cX11_undo 4 = .ok (.aload_n 0, 1) := by decide +kernel
theorem dX11_undo_5 : decode cX11_undo 5 = .ok (.getfield 40, 3) := by decide +kernel
theorem dX11_undo_8 : decode cX11_undo 8 = .ok (.invokevirtual 256, 3) := by decide +kernel
theorem dX11_undo_11 : decode cX11_undo 11 = .ok (.ifCond .eq 13, 3) := by decide +kernel
theorem dX11_undo_24 : decode cX11_undo 24 = .ok (.iconst (-1), 1) := by decide +kernel
theorem dX11_undo_25 : decode cX11_undo 25 = .ok (.ireturn, 1) := by decide +kernel
theorem dX11_votes_0 : decode cX11_votes 0 = .ok (.iload_n 1, 1) := by decide +kernel
theorem dX11_votes_1 : decode cX11_votes 1 = .ok (.ifCond .lt 16, 3) := by decide +kernel
theorem dX11_votes_4 : decode cX11_votes 4 = .ok (.iload_n 1, 1) := by decide +kernel
theorem dX11_votes_5 : decode cX11_votes 5 = .ok (.iconst 1, 1) := by decide +kernel
theorem dX11_votes_6 : decode cX11_votes 6 = .ok (.aload_n 0, 1) := by decide +kernel
theorem dX11_votes_7 : decode cX11_votes 7 = .ok (.getfield 19, 3) := by decide +kernel
theorem dX11_votes_10 : decode cX11_votes 10 = .ok (.getfield 216, 3) := by decide +kernel
theorem dX11_votes_13 : decode cX11_votes 13 = .ok (.ishl, 1) := by decide +kernel
theorem dX11_votes_14 : decode cX11_votes 14 = .ok (.if_icmp .lt 5, 3) := by decide +kernel
theorem dX11_votes_17 : decode cX11_votes 17 = .ok (.iconst (-1), 1) := by decide +kernel
theorem dX11_votes_18 : decode cX11_votes 18 = .ok (.ireturn, 1) := by decide +kernel
theorem dX11_votes_19 : decode cX11_votes 19 = .ok (.aload_n 0, 1) := by decide +kernel
theorem dX11_votes_20 : decode cX11_votes 20 = .ok (.getfield 40, 3) := by decide +kernel
theorem dX11_votes_23 : decode cX11_votes 23 = .ok (.iload_n 1, 1) := by decide +kernel
theorem dX11_votes_24 : decode cX11_votes 24 = .ok (.invokevirtual 299, 3) := by decide +kernel
theorem dX11_votes_27 : decode cX11_votes 27 = .ok (.ifCond .eq 7, 3) := by decide +kernel
theorem dX11_votes_34 : decode cX11_votes 34 = .ok (.iconst 0, 1) := by decide +kernel
theorem dX11_votes_35 : decode cX11_votes 35 = .ok (.ireturn, 1) := by decide +kernel
theorem dX11_wishes_0 : decode cX11_wishes 0 = .ok (.aload_n 0, 1) := by decide +kernel
theorem dX11_wishes_1 : decode cX11_wishes 1 = .ok (.getfield 76, 3) := by decide +kernel
theorem dX11_wishes_4 : decode cX11_wishes 4 = .ok (.invokevirtual 275, 3) := by decide +kernel
theorem dX11_wishes_7 : decode cX11_wishes 7 = .ok (.ireturn, 1) := by decide +kernel
theorem dX11_worth_0 : decode cX11_worth 0 = .ok (.aload_n 0, 1) := by decide +kernel
theorem dX11_worth_1 : decode cX11_worth 1 = .ok (.getfield 19, 3) := by decide +kernel
theorem dX11_worth_4 : decode cX11_worth 4 = .ok (.iload_n 1, 1) := by decide +kernel
theorem dX11_worth_5 : decode cX11_worth 5 = .ok (.invokevirtual 169, 3) := by decide +kernel
theorem dX11_worth_8 : decode cX11_worth 8 = .ok (.ifCond .eq 26, 3) := by decide +kernel
theorem dX11_worth_34 : decode cX11_worth 34 = .ok (.iconst (-1), 1) := by decide +kernel
theorem dX11_worth_35 : decode cX11_worth 35 = .ok (.ireturn, 1) := by decide +kernel
theorem dX12_areTwo_0 : decode cX12_areTwo 0 = .ok (.aload_n 0, 1) := by decide +kernel
theorem dX12_areTwo_1 : decode cX12_areTwo 1 = .ok (.iload_n 1, 1) := by decide +kernel
theorem dX12_areTwo_2 : decode cX12_areTwo 2 = .ok (.invokevirtual 236, 3) := by decide +kernel
theorem dX12_areTwo_5 : decode cX12_areTwo 5 = .ok (.ifCond .eq 20, 3) := by decide +kernel
theorem dX12_areTwo_25 : decode cX12_areTwo 25 = .ok (.iconst 0, 1) := by decide +kernel
theorem dX12_areTwo_26 : decode cX12_areTwo 26 = .ok (.ireturn, 1) := by decide +kernel
theorem dX12_back_0 : decode cX12_back 0 = .ok (.iconst 0, 1) := by decide +kernel
theorem dX12_back_1 : decode cX12_back 1 = .ok (.istore_n 1, 1) := by decide +kernel
theorem dX12_back_2 : decode cX12_back 2 = .ok (.iload_n 1, 1) := by decide +kernel
theorem dX12_back_3 : decode cX12_back 3 = .ok (.sipush 1860, 3) := by decide +kernel
theorem dX12_back_6 : decode cX12_back 6 = .ok (.if_icmp .ge 25, 3) := by decide +kernel
theorem dX12_back_9 : decode cX12_back 9 = .ok (.aload_n 0, 1) := by decide +kernel
theorem dX12_back_10 : decode cX12_back 10 = .ok (.getfield 33, 3) := by decide +kernel
theorem dX12_back_13 : decode cX12_back 13 = .ok (.sipush 146, 3) := by decide +kernel
theorem dX12_back_16 : decode cX12_back 16 = .ok (.iload_n 1, 1) := by decide +kernel
theorem dX12_back_17 : decode cX12_back 17 = .ok (.iadd, 1) := by decide +kernel
theorem dX12_back_18 : decode cX12_back 18 = .ok (.aload_n 0, 1) := by decide +kernel
theorem dX12_back_19 : decode cX12_back 19 = .ok (.getfield 53, 3) := by decide +kernel
theorem dX12_back_22 : decode cX12_back 22 = .ok (.iload_n 1, 1) := by decide +kernel
theorem dX12_back_23 : decode cX12_back 23 = .ok (.iaload, 1) := by decide +kernel
theorem dX12_back_24 : decode cX12_back 24 = .ok (.iastore, 1) := by decide +kernel
theorem dX12_back_25 : decode cX12_back 25 = .ok (.iinc 1 1, 3) := by decide +kernel
theorem dX12_back_28 : decode cX12_back 28 = .ok (.goto (-26), 3) := by decide +kernel
theorem dX12_back_31 : decode cX12_back 31 = .ok (.return_, 1) := by decide +kernel
theorem dX12_bad_0 : decode cX12_bad 0 = .ok (.aload_n 0, 1) := by decide +kernel
theorem dX12_bad_1 : decode cX12_bad 1 = .ok (.iload_n 1, 1) := by decide +kernel
theorem dX12_bad_2 : decode cX12_bad 2 = .ok (.putfield 162, 3) := by decide +kernel
theorem dX12_bad_5 : decode cX12_bad 5 = .ok (.aload_n 0, 1) := by decide +kernel
theorem dX12_bad_6 : decode cX12_bad 6 = .ok (.aload_n 0, 1) := by decide +kernel
theorem dX12_bad_7 : decode cX12_bad 7 = .ok (.getfield 139, 3) := by decide +kernel
theorem dX12_bad_10 : decode cX12_bad 10 = .ok (.putfield 165, 3) := by decide +kernel
theorem dX12_bad_13 : decode cX12_bad 13 = .ok (.iconst 0, 1) := by decide +kernel
theorem dX12_bad_14 : decode cX12_bad 14 = .ok (.ireturn, 1) := by decide +kernel
theorem dX12_bearers_0 : decode cX12_bearers 0 = .ok (.aload_n 0, 1) := by decide +kernel
theorem dX12_bearers_1 : decode cX12_bearers 1 = .ok (.iconst 0, 1) := by decide +kernel
theorem dX12_bearers_2 : decode cX12_bearers 2 = .ok (.putfield 1, 3) := by decide +kernel
theorem dX12_bearers_5 : decode cX12_bearers 5 = .ok (.aload_n 0, 1) := by decide +kernel
theorem dX12_bearers_6 : decode cX12_bearers 6 = .ok (.iload_n 1, 1) := by decide +kernel
theorem dX12_bearers_7 : decode cX12_bearers 7 = .ok (.invokevirtual 246, 3) := by decide +kernel
theorem dX12_bearers_10 : decode cX12_bearers 10 = .ok (.ifCond .ne 5, 3) := by decide +kernel
theorem dX12_bearers_13 : decode cX12_bearers 13 = .ok (.iconst (-1), 1) := by decide +kernel
theorem dX12_bearers_14 : decode cX12_bearers 14 = .ok (.ireturn, 1) := by decide +kernel
theorem dX12_bid_0 : decode cX12_bid 0 = .ok (.aload_n 0, 1) := by decide +kernel
theorem dX12_bid_1 : decode cX12_bid 1 = .ok (.iconst 0, 1) := by decide +kernel
theorem dX12_bid_2 : decode cX12_bid 2 = .ok (.putfield 1, 3) := by decide +kernel
theorem dX12_bid_5 : decode cX12_bid 5 = .ok (.aload_n 0, 1) := by decide +kernel
theorem dX12_bid_6 : decode cX12_bid 6 = .ok (.iload_n 1, 1) := by decide +kernel
theorem dX12_bid_7 : decode cX12_bid 7 = .ok (.invokevirtual 246, 3) := by decide +kernel
theorem dX12_bid_10 : decode cX12_bid 10 = .ok (.ifCond .ne 5, 3) := by decide +kernel
theorem dX12_bid_13 : decode cX12_bid 13 = .ok (.iconst (-1), 1) := by decide +kernel
theorem dX12_bid_14 : decode cX12_bid 14 = .ok (.ireturn, 1) := by decide +kernel
theorem dX12_bidder_0 : decode cX12_bidder 0 = .ok (.aload_n 0, 1) := by decide +kernel
theorem dX12_bidder_1 : decode cX12_bidder 1 = .ok (.iconst 0, 1) := by decide +kernel
theorem dX12_bidder_2 : decode cX12_bidder 2 = .ok (.putfield 1, 3) := by decide +kernel
theorem dX12_bidder_5 : decode cX12_bidder 5 = .ok (.aload_n 0, 1) := by decide +kernel
theorem dX12_bidder_6 : decode cX12_bidder 6 = .ok (.iload_n 1, 1) := by decide +kernel
theorem dX12_bidder_7 : decode cX12_bidder 7 = .ok (.invokevirtual 246, 3) := by decide +kernel
theorem dX12_bidder_10 : decode cX12_bidder 10 = .ok (.ifCond .ne 5, 3) := by decide +kernel
theorem dX12_bidder_13 : decode cX12_bidder 13 = .ok (.iconst (-1), 1) := by decide +kernel
theorem dX12_bidder_14 : decode cX12_bidder 14 = .ok (.ireturn, 1) := by decide +kernel
theorem dX12_bits_0 : decode cX12_bits 0 = .ok (.iconst 0, 1) := by decide +kernel
theorem dX12_bits_1 : decode cX12_bits 1 = .ok (.istore_n 1, 1) := by decide +kernel
theorem dX12_bits_2 : decode cX12_bits 2 = .ok (.iload_n 0, 1) := by decide +kernel
theorem dX12_bits_3 : decode cX12_bits 3 = .ok (.istore_n 2, 1) := by decide +kernel
theorem dX12_bits_4 : decode cX12_bits 4 = .ok (.iload_n 2, 1) := by decide +kernel
theorem dX12_bits_5 : decode cX12_bits 5 = .ok (.ifCond .eq 15, 3) := by decide +kernel
theorem dX12_bits_20 : decode cX12_bits 20 = .ok (.iload_n 1, 1) := by decide +kernel
theorem dX12_bits_21 : decode cX12_bits 21 = .ok (.ireturn, 1) := by decide +kernel
theorem dX12_called_0 : decode cX12_called 0 = .ok (.aload_n 0, 1) := by decide +kernel
theorem dX12_called_1 : decode cX12_called 1 = .ok (.iconst 0, 1) := by decide +kernel
theorem dX12_called_2 : decode cX12_called 2 = .ok (.putfield 1, 3) := by decide +kernel
theorem dX12_called_5 : decode cX12_called 5 = .ok (.aload_n 0, 1) := by decide +kernel
theorem dX12_called_6 : decode cX12_called 6 = .ok (.iload_n 1, 1) := by decide +kernel
theorem dX12_called_7 : decode cX12_called 7 = .ok (.invokevirtual 236, 3) := by decide +kernel
theorem dX12_called_10 : decode cX12_called 10 = .ok (.ifCond .eq 20, 3) := by decide +kernel
theorem dX12_called_30 : decode cX12_called 30 = .ok (.bipush (-2), 2) := by decide +kernel
theorem dX12_called_32 : decode cX12_called 32 = .ok (.ireturn, 1) := by decide +kernel
theorem dX12_calledSet_0 : decode cX12_calledSet 0 = .ok (.iconst 0, 1) := by decide +kernel
theorem dX12_calledSet_1 : decode cX12_calledSet 1 = .ok (.istore_n 1, 1) := by decide +kernel
theorem dX12_calledSet_2 : decode cX12_calledSet 2 = .ok (.iconst 0, 1) := by decide +kernel
theorem dX12_calledSet_3 : decode cX12_calledSet 3 = .ok (.istore_n 2, 1) := by decide +kernel
theorem dX12_calledSet_4 : decode cX12_calledSet 4 = .ok (.iload_n 2, 1) := by decide +kernel
theorem dX12_calledSet_5 : decode cX12_calledSet 5 = .ok (.aload_n 0, 1) := by decide +kernel
theorem dX12_calledSet_6 : decode cX12_calledSet 6 = .ok (.getfield 33, 3) := by decide +kernel
theorem dX12_calledSet_9 : decode cX12_calledSet 9 = .ok (.iconst 1, 1) := by decide +kernel
theorem dX12_calledSet_10 : decode cX12_calledSet 10 = .ok (.iaload, 1) := by decide +kernel
theorem dX12_calledSet_11 : decode cX12_calledSet 11 = .ok (.if_icmp .ge 32, 3) := by decide +kernel
theorem dX12_calledSet_43 : decode cX12_calledSet 43 = .ok (.iload_n 1, 1) := by decide +kernel
theorem dX12_calledSet_44 : decode cX12_calledSet 44 = .ok (.ireturn, 1) := by decide +kernel
theorem dX12_canBe_0 : decode cX12_canBe 0 = .ok (.iconst 0, 1) := by decide +kernel
theorem dX12_canBe_1 : decode cX12_canBe 1 = .ok (.istore_n 1, 1) := by decide +kernel
theorem dX12_canBe_2 : decode cX12_canBe 2 = .ok (.iload_n 1, 1) := by decide +kernel
theorem dX12_canBe_3 : decode cX12_canBe 3 = .ok (.aload_n 0, 1) := by decide +kernel
theorem dX12_canBe_4 : decode cX12_canBe 4 = .ok (.getfield 33, 3) := by decide +kernel
theorem dX12_canBe_7 : decode cX12_canBe 7 = .ok (.iconst 1, 1) := by decide +kernel
theorem dX12_canBe_8 : decode cX12_canBe 8 = .ok (.iaload, 1) := by decide +kernel
theorem dX12_canBe_9 : decode cX12_canBe 9 = .ok (.if_icmp .ge 87, 3) := by decide +kernel
theorem dX12_canBe_96 : decode cX12_canBe 96 = .ok (.iconst 1, 1) := by decide +kernel
theorem dX12_canBe_97 : decode cX12_canBe 97 = .ok (.ireturn, 1) := by decide +kernel
theorem dX12_cheapest_0 : decode cX12_cheapest 0 = .ok (.aload_n 0, 1) := by decide +kernel
theorem dX12_cheapest_1 : decode cX12_cheapest 1 = .ok (.iconst 0, 1) := by decide +kernel
theorem dX12_cheapest_2 : decode cX12_cheapest 2 = .ok (.putfield 1, 3) := by decide +kernel
theorem dX12_cheapest_5 : decode cX12_cheapest 5 = .ok (.aload_n 0, 1) := by decide +kernel
theorem dX12_cheapest_6 : decode cX12_cheapest 6 = .ok (.getfield 381, 3) := by decide +kernel
theorem dX12_cheapest_9 : decode cX12_cheapest 9 = .ok (.ifCond .eq 10, 3) := by decide +kernel
theorem dX12_cheapest_19 : decode cX12_cheapest 19 = .ok (.iconst (-1), 1) := by decide +kernel
theorem dX12_cheapest_20 : decode cX12_cheapest 20 = .ok (.ireturn, 1) := by decide +kernel
theorem dX12_count_0 : decode cX12_count 0 = .ok (.aload_n 0, 1) := by decide +kernel
theorem dX12_count_1 : decode cX12_count 1 = .ok (.iconst 0, 1) := by decide +kernel
theorem dX12_count_2 : decode cX12_count 2 = .ok (.putfield 1, 3) := by decide +kernel
theorem dX12_count_5 : decode cX12_count 5 = .ok (.iload_n 1, 1) := by decide +kernel
theorem dX12_count_6 : decode cX12_count 6 = .ok (.iconst 2, 1) := by decide +kernel
theorem dX12_count_7 : decode cX12_count 7 = .ok (.if_icmp .ne 10, 3) := by decide +kernel
theorem dX12_count_10 : decode cX12_count 10 = .ok (.aload_n 0, 1) := by decide +kernel
theorem dX12_count_11 : decode cX12_count 11 = .ok (.getfield 7, 3) := by decide +kernel
theorem dX12_count_14 : decode cX12_count 14 = .ok (.goto 22, 3) := by decide +kernel
theorem dX12_count_17 : decode cX12_count 17 = .ok (.iload_n 1, 1) := by decide +kernel
theorem dX12_count_18 : decode cX12_count 18 = .ok (.iconst 0, 1) := by decide +kernel
theorem dX12_count_19 : decode cX12_count 19 = .ok (.iconst 1, 1) := by decide +kernel
theorem dX12_count_20 : decode cX12_count 20 = .ok (.invokestatic 177, 3) := by decide +kernel
theorem dX12_count_23 : decode cX12_count 23 = .ok (.ifCond .eq 12, 3) := by decide +kernel
theorem dX12_count_26 : decode cX12_count 26 = .ok (.aload_n 0, 1) := by decide +kernel
theorem dX12_count_27 : decode cX12_count 27 = .ok (.getfield 33, 3) := by decide +kernel
theorem dX12_count_30 : decode cX12_count 30 = .ok (.iload_n 1, 1) := by decide +kernel
theorem dX12_count_31 : decode cX12_count 31 = .ok (.iaload, 1) := by decide +kernel
theorem dX12_count_32 : decode cX12_count 32 = .ok (.goto 4, 3) := by decide +kernel
theorem dX12_count_35 : decode cX12_count 35 = .ok (.iconst (-1), 1) := by decide +kernel
theorem dX12_count_36 : decode cX12_count 36 = .ok (.ireturn, 1) := by decide +kernel
theorem dX12_die_0 : decode cX12_die 0 = .ok (.aload_n 0, 1) := by decide +kernel
theorem dX12_die_1 : decode cX12_die 1 = .ok (.iconst 0, 1) := by decide +kernel
theorem dX12_die_2 : decode cX12_die 2 = .ok (.putfield 1, 3) := by decide +kernel
theorem dX12_die_5 : decode cX12_die 5 = .ok (.aload_n 0, 1) := by decide +kernel
theorem dX12_die_6 : decode cX12_die 6 = .ok (.iload_n 1, 1) := by decide +kernel
theorem dX12_die_7 : decode cX12_die 7 = .ok (.invokevirtual 236, 3) := by decide +kernel
theorem dX12_die_10 : decode cX12_die 10 = .ok (.ifCond .eq 12, 3) := by decide +kernel
theorem dX12_die_22 : decode cX12_die 22 = .ok (.iconst (-1), 1) := by decide +kernel
theorem dX12_die_23 : decode cX12_die 23 = .ok (.ireturn, 1) := by decide +kernel
theorem dX12_drawn_0 : decode cX12_drawn 0 = .ok (.aload_n 0, 1) := by decide +kernel
theorem dX12_drawn_1 : decode cX12_drawn 1 = .ok (.iconst 0, 1) := by decide +kernel
theorem dX12_drawn_2 : decode cX12_drawn 2 = .ok (.putfield 1, 3) := by decide +kernel
theorem dX12_drawn_5 : decode cX12_drawn 5 = .ok (.iload_n 1, 1) := by decide +kernel
theorem dX12_drawn_6 : decode cX12_drawn 6 = .ok (.iconst 1, 1) := by decide +kernel
theorem dX12_drawn_7 : decode cX12_drawn 7 = .ok (.bipush 60, 2) := by decide +kernel
theorem dX12_drawn_9 : decode cX12_drawn 9 = .ok (.invokestatic 177, 3) := by decide +kernel
theorem dX12_drawn_12 : decode cX12_drawn 12 = .ok (.ifCond .eq 21, 3) := by decide +kernel
theorem dX12_drawn_15 : decode cX12_drawn 15 = .ok (.aload_n 0, 1) := by decide +kernel
theorem dX12_drawn_16 : decode cX12_drawn 16 = .ok (.getfield 33, 3) := by decide +kernel
theorem dX12_drawn_19 : decode cX12_drawn 19 = .ok (.iconst 1, 1) := by decide +kernel
theorem dX12_drawn_20 : decode cX12_drawn 20 = .ok (.iaload, 1) := by decide +kernel
theorem dX12_drawn_21 : decode cX12_drawn 21 = .ok (.ifCond .eq 12, 3) := by decide +kernel
theorem dX12_drawn_33 : decode cX12_drawn 33 = .ok (.iconst (-1), 1) := by decide +kernel
theorem dX12_drawn_34 : decode cX12_drawn 34 = .ok (.ireturn, 1) := by decide +kernel
theorem dX12_end_0 : decode cX12_end 0 = .ok (.aload_n 0, 1) := by decide +kernel
theorem dX12_end_1 : decode cX12_end 1 = .ok (.iconst 0, 1) := by decide +kernel
theorem dX12_end_2 : decode cX12_end 2 = .ok (.putfield 1, 3) := by decide +kernel
theorem dX12_end_5 : decode cX12_end 5 = .ok (.iload_n 1, 1) := by decide +kernel
theorem dX12_end_6 : decode cX12_end 6 = .ok (.ifCond .lt 11, 3) := by decide +kernel
theorem dX12_end_9 : decode cX12_end 9 = .ok (.iload_n 1, 1) := by decide +kernel
theorem dX12_end_10 : decode cX12_end 10 = .ok (.aload_n 0, 1) := by decide +kernel
theorem dX12_end_11 : decode cX12_end 11 = .ok (.getfield 7, 3) := by decide +kernel
theorem dX12_end_14 : decode cX12_end 14 = .ok (.if_icmp .le 5, 3) := by decide +kernel
theorem dX12_end_17 : decode cX12_end 17 = .ok (.iconst 0, 1) := by decide +kernel
theorem dX12_end_18 : decode cX12_end 18 = .ok (.ireturn, 1) := by decide +kernel
theorem dX12_end_19 : decode cX12_end 19 = .ok (.aload_n 0, 1) := by decide +kernel
theorem dX12_end_20 : decode cX12_end 20 = .ok (.iload_n 1, 1) := by decide +kernel
theorem dX12_end_21 : decode cX12_end 21 = .ok (.putfield 7, 3) := by decide +kernel
theorem dX12_end_24 : decode cX12_end 24 = .ok (.iconst 1, 1) := by decide +kernel
theorem dX12_end_25 : decode cX12_end 25 = .ok (.ireturn, 1) := by decide +kernel
theorem dX12_fault_0 : decode cX12_fault 0 = .ok (.aload_n 0, 1) := by decide +kernel
theorem dX12_fault_1 : decode cX12_fault 1 = .ok (.iconst 0, 1) := by decide +kernel
theorem dX12_fault_2 : decode cX12_fault 2 = .ok (.putfield 1, 3) := by decide +kernel
theorem dX12_fault_5 : decode cX12_fault 5 = .ok (.aload_n 0, 1) := by decide +kernel
theorem dX12_fault_6 : decode cX12_fault 6 = .ok (.getfield 162, 3) := by decide +kernel
theorem dX12_fault_9 : decode cX12_fault 9 = .ok (.ireturn, 1) := by decide +kernel
theorem dX12_feasts_0 : decode cX12_feasts 0 = .ok (.aload_n 0, 1) := by decide +kernel
theorem dX12_feasts_1 : decode cX12_feasts 1 = .ok (.iconst 0, 1) := by decide +kernel
theorem dX12_feasts_2 : decode cX12_feasts 2 = .ok (.putfield 1, 3) := by decide +kernel
theorem dX12_feasts_5 : decode cX12_feasts 5 = .ok (.aload_n 0, 1) := by decide +kernel
theorem dX12_feasts_6 : decode cX12_feasts 6 = .ok (.iload_n 1, 1) := by decide +kernel
theorem dX12_feasts_7 : decode cX12_feasts 7 = .ok (.invokevirtual 246, 3) := by decide +kernel
theorem dX12_feasts_10 : decode cX12_feasts 10 = .ok (.ifCond .eq 13, 3) := by decide +kernel
theorem dX12_feasts_23 : decode cX12_feasts 23 = .ok (.iconst (-1), 1) := by decide +kernel
theorem dX12_feasts_24 : decode cX12_feasts 24 = .ok (.ireturn, 1) := by decide +kernel
theorem dX12_feed_0 : decode cX12_feed 0 = .ok (.aload_n 0, 1) := by decide +kernel
theorem dX12_feed_1 : decode cX12_feed 1 = .ok (.iconst 0, 1) := by decide +kernel
theorem dX12_feed_2 : decode cX12_feed 2 = .ok (.putfield 1, 3) := by decide +kernel
theorem dX12_feed_5 : decode cX12_feed 5 = .ok (.aload_n 0, 1) := by decide +kernel
theorem dX12_feed_6 : decode cX12_feed 6 = .ok (.getfield 7, 3) := by decide +kernel
theorem dX12_feed_9 : decode cX12_feed 9 = .ok (.bipush 20, 2) := by decide +kernel
theorem dX12_feed_11 : decode cX12_feed 11 = .ok (.iadd, 1) := by decide +kernel
theorem dX12_feed_12 : decode cX12_feed 12 = .ok (.sipush 940, 3) := by decide +kernel
theorem dX12_feed_15 : decode cX12_feed 15 = .ok (.if_icmp .le 5, 3) := by decide +kernel
theorem dX12_feed_20 : decode cX12_feed 20 = .ok (.aload_n 0, 1) := by decide +kernel
theorem dX12_feed_21 : decode cX12_feed 21 = .ok (.iload_n 1, 1) := by decide +kernel
theorem dX12_feed_22 : decode cX12_feed 22 = .ok (.invokevirtual 10, 3) := by decide +kernel
theorem dX12_feed_25 : decode cX12_feed 25 = .ok (.aload_n 0, 1) := by decide +kernel
theorem dX12_feed_26 : decode cX12_feed 26 = .ok (.iload_n 2, 1) := by decide +kernel
theorem dX12_feed_27 : decode cX12_feed 27 = .ok (.invokevirtual 10, 3) := by decide +kernel
theorem dX12_feed_30 : decode cX12_feed 30 = .ok (.aload_n 0, 1) := by decide +kernel
theorem dX12_feed_31 : decode cX12_feed 31 = .ok (.iload_n 3, 1) := by decide +kernel
theorem dX12_feed_32 : decode cX12_feed 32 = .ok (.invokevirtual 10, 3) := by decide +kernel
theorem dX12_feed_35 : decode cX12_feed 35 = .ok (.aload_n 0, 1) := by decide +kernel
theorem dX12_feed_36 : decode cX12_feed 36 = .ok (.iload 4, 2) := by decide +kernel
theorem dX12_feed_38 : decode cX12_feed 38 = .ok (.invokevirtual 10, 3) := by decide +kernel
theorem dX12_feed_41 : decode cX12_feed 41 = .ok (.aload_n 0, 1) := by decide +kernel
theorem dX12_feed_42 : decode cX12_feed 42 = .ok (.iload 5, 2) := by decide +kernel
theorem dX12_feed_44 : decode cX12_feed 44 = .ok (.invokevirtual 10, 3) := by decide +kernel
theorem dX12_feed_47 : decode cX12_feed 47 = .ok (.aload_n 0, 1) := by decide +kernel
theorem dX12_feed_48 : decode cX12_feed 48 = .ok (.getfield 7, 3) := by decide +kernel
theorem dX12_feed_51 : decode cX12_feed 51 = .ok (.ireturn, 1) := by decide +kernel
theorem dX12_flee_0 : decode cX12_flee 0 = .ok (.aload_n 0, 1) := by decide +kernel
theorem dX12_flee_1 : decode cX12_flee 1 = .ok (.iconst 0, 1) := by decide +kernel
theorem dX12_flee_2 : decode cX12_flee 2 = .ok (.putfield 1, 3) := by decide +kernel
theorem dX12_flee_5 : decode cX12_flee 5 = .ok (.aload_n 0, 1) := by decide +kernel
theorem dX12_flee_6 : decode cX12_flee 6 = .ok (.iload_n 1, 1) := by decide +kernel
theorem dX12_flee_7 : decode cX12_flee 7 = .ok (.invokevirtual 236, 3) := by decide +kernel
theorem dX12_flee_10 : decode cX12_flee 10 = .ok (.ifCond .ne 5, 3) := by decide +kernel
theorem dX12_flee_13 : decode cX12_flee 13 = .ok (.iconst (-1), 1) := by decide +kernel
theorem dX12_flee_14 : decode cX12_flee 14 = .ok (.ireturn, 1) := by decide +kernel
theorem dX12_four_0 : decode cX12_four 0 = .ok (.bipush 24, 2) := by decide +kernel
theorem dX12_four_2 : decode cX12_four 2 = .ok (.istore_n 2, 1) := by decide +kernel
theorem dX12_four_3 : decode cX12_four 3 = .ok (.iload_n 2, 1) := by decide +kernel
theorem dX12_four_4 : decode cX12_four 4 = .ok (.ifCond .lt 32, 3) := by decide +kernel
theorem dX12_four_7 : decode cX12_four 7 = .ok (.aload_n 0, 1) := by decide +kernel
theorem dX12_four_8 : decode cX12_four 8 = .ok (.getfield 14, 3) := by decide +kernel
theorem dX12_four_11 : decode cX12_four 11 = .ok (.aload_n 0, 1) := by decide +kernel
theorem dX12_four_12 : decode cX12_four 12 = .ok (.getfield 7, 3) := by decide +kernel
theorem dX12_four_15 : decode cX12_four 15 = .ok (.iload_n 1, 1) := by decide +kernel
theorem dX12_four_16 : decode cX12_four 16 = .ok (.iload_n 2, 1) := by decide +kernel
theorem dX12_four_17 : decode cX12_four 17 = .ok (.ishr, 1) := by decide +kernel
theorem dX12_four_18 : decode cX12_four 18 = .ok (.i2b, 1) := by decide +kernel
theorem dX12_four_19 : decode cX12_four 19 = .ok (.bastore, 1) := by decide +kernel
theorem dX12_four_20 : decode cX12_four 20 = .ok (.aload_n 0, 1) := by decide +kernel
theorem dX12_four_21 : decode cX12_four 21 = .ok (.dup, 1) := by decide +kernel
theorem dX12_four_22 : decode cX12_four 22 = .ok (.getfield 7, 3) := by decide +kernel
theorem dX12_four_25 : decode cX12_four 25 = .ok (.iconst 1, 1) := by decide +kernel
theorem dX12_four_26 : decode cX12_four 26 = .ok (.iadd, 1) := by decide +kernel
theorem dX12_four_27 : decode cX12_four 27 = .ok (.putfield 7, 3) := by decide +kernel
theorem dX12_four_30 : decode cX12_four 30 = .ok (.iinc 2 (-8), 3) := by decide +kernel
theorem dX12_four_33 : decode cX12_four 33 = .ok (.goto (-30), 3) := by decide +kernel
theorem dX12_four_36 : decode cX12_four 36 = .ok (.return_, 1) := by decide +kernel
theorem dX12_freeNames_0 : decode cX12_freeNames 0 = .ok (.iconst 0, 1) := by decide +kernel
theorem dX12_freeNames_1 : decode cX12_freeNames 1 = .ok (.istore_n 1, 1) := by decide +kernel
theorem dX12_freeNames_2 : decode cX12_freeNames 2 = .ok (.iconst 0, 1) := by decide +kernel
theorem dX12_freeNames_3 : decode cX12_freeNames 3 = .ok (.istore_n 2, 1) := by decide +kernel
theorem dX12_freeNames_4 : decode cX12_freeNames 4 = .ok (.iload_n 2, 1) := by decide +kernel
theorem dX12_freeNames_5 : decode cX12_freeNames 5 = .ok (.aload_n 0, 1) := by decide +kernel
theorem dX12_freeNames_6 : decode cX12_freeNames 6 = .ok (.getfield 33, 3) := by decide +kernel
theorem dX12_freeNames_9 : decode cX12_freeNames 9 = .ok (.iconst 0, 1) := by decide +kernel
theorem dX12_freeNames_10 : decode cX12_freeNames 10 = .ok (.iaload, 1) := by decide +kernel
theorem dX12_freeNames_11 : decode cX12_freeNames 11 = .ok (.if_icmp .ge 27, 3) := by decide +kernel
theorem dX12_freeNames_38 : decode cX12_freeNames 38 = .ok (.iload_n 1, 1) := by decide +kernel
theorem dX12_freeNames_39 : decode cX12_freeNames 39 = .ok (.ireturn, 1) := by decide +kernel
theorem dX12_goes_0 : decode cX12_goes 0 = .ok (.iconst 0, 1) := by decide +kernel
theorem dX12_goes_1 : decode cX12_goes 1 = .ok (.istore_n 2, 1) := by decide +kernel
theorem dX12_goes_2 : decode cX12_goes 2 = .ok (.iload_n 2, 1) := by decide +kernel
theorem dX12_goes_3 : decode cX12_goes 3 = .ok (.iload_n 1, 1) := by decide +kernel
theorem dX12_goes_4 : decode cX12_goes 4 = .ok (.if_icmp .ge 27, 3) := by decide +kernel
theorem dX12_goes_7 : decode cX12_goes 7 = .ok (.aload_n 0, 1) := by decide +kernel
theorem dX12_goes_8 : decode cX12_goes 8 = .ok (.getfield 33, 3) := by decide +kernel
theorem dX12_goes_11 : decode cX12_goes 11 = .ok (.sipush 146, 3) := by decide +kernel
theorem dX12_goes_14 : decode cX12_goes 14 = .ok (.iaload, 1) := by decide +kernel
theorem dX12_goes_15 : decode cX12_goes 15 = .ok (.sipush 200, 3) := by decide +kernel
theorem dX12_goes_18 : decode cX12_goes 18 = .ok (.if_icmp .ge 13, 3) := by decide +kernel
theorem dX12_goes_21 : decode cX12_goes 21 = .ok (.aload_n 0, 1) := by decide +kernel
theorem dX12_goes_22 : decode cX12_goes 22 = .ok (.invokevirtual 323, 3) := by decide +kernel
theorem dX12_goes_25 : decode cX12_goes 25 = .ok (.iinc 2 1, 3) := by decide +kernel
theorem dX12_goes_28 : decode cX12_goes 28 = .ok (.goto (-26), 3) := by decide +kernel
theorem dX12_goes_31 : decode cX12_goes 31 = .ok (.iload_n 2, 1) := by decide +kernel
theorem dX12_goes_32 : decode cX12_goes 32 = .ok (.ireturn, 1) := by decide +kernel
theorem dX12_hasEnough_0 : decode cX12_hasEnough 0 = .ok (.aload_n 0, 1) := by decide +kernel
theorem dX12_hasEnough_1 : decode cX12_hasEnough 1 = .ok (.invokevirtual 365, 3) := by decide +kernel
theorem dX12_hasEnough_4 : decode cX12_hasEnough 4 = .ok (.istore_n 2, 1) := by decide +kernel
theorem dX12_hasEnough_5 : decode cX12_hasEnough 5 = .ok (.aload_n 0, 1) := by decide +kernel
theorem dX12_hasEnough_6 : decode cX12_hasEnough 6 = .ok (.invokevirtual 368, 3) := by decide +kernel
theorem dX12_hasEnough_9 : decode cX12_hasEnough 9 = .ok (.invokestatic 371, 3) := by decide +kernel
theorem dX12_hasEnough_12 : decode cX12_hasEnough 12 = .ok (.iload_n 2, 1) := by decide +kernel
theorem dX12_hasEnough_13 : decode cX12_hasEnough 13 = .ok (.ifCond .eq 7, 3) := by decide +kernel
theorem dX12_hasEnough_20 : decode cX12_hasEnough 20 = .ok (.iconst 0, 1) := by decide +kernel
theorem dX12_hasEnough_21 : decode cX12_hasEnough 21 = .ok (.iadd, 1) := by decide +kernel
theorem dX12_hasEnough_22 : decode cX12_hasEnough 22 = .ok (.istore_n 3, 1) := by decide +kernel
theorem dX12_hasEnough_23 : decode cX12_hasEnough 23 = .ok (.iload_n 1, 1) := by decide +kernel
theorem dX12_hasEnough_24 : decode cX12_hasEnough 24 = .ok (.aload_n 0, 1) := by decide +kernel
theorem dX12_hasEnough_25 : decode cX12_hasEnough 25 = .ok (.invokevirtual 368, 3) := by decide +kernel
theorem dX12_hasEnough_28 : decode cX12_hasEnough 28 = .ok (.iand, 1) := by decide +kernel
theorem dX12_hasEnough_29 : decode cX12_hasEnough 29 = .ok (.invokestatic 371, 3) := by decide +kernel
theorem dX12_hasEnough_32 : decode cX12_hasEnough 32 = .ok (.iload_n 2, 1) := by decide +kernel
theorem dX12_hasEnough_33 : decode cX12_hasEnough 33 = .ok (.ifCond .eq 15, 3) := by decide +kernel
theorem dX12_hasEnough_48 : decode cX12_hasEnough 48 = .ok (.iconst 0, 1) := by decide +kernel
theorem dX12_hasEnough_49 : decode cX12_hasEnough 49 = .ok (.iadd, 1) := by decide +kernel
theorem dX12_hasEnough_50 : decode cX12_hasEnough 50 = .ok (.istore 4, 2) := by decide +kernel
theorem dX12_hasEnough_52 : decode cX12_hasEnough 52 = .ok (.iconst 2, 1) := by decide +kernel
theorem dX12_hasEnough_53 : decode cX12_hasEnough 53 = .ok (.iload 4, 2) := by decide +kernel
theorem dX12_hasEnough_55 : decode cX12_hasEnough 55 = .ok (.imul, 1) := by decide +kernel
theorem dX12_hasEnough_56 : decode cX12_hasEnough 56 = .ok (.iload_n 3, 1) := by decide +kernel
theorem dX12_hasEnough_57 : decode cX12_hasEnough 57 = .ok (.if_icmp .le 7, 3) := by decide +kernel
theorem dX12_hasEnough_64 : decode cX12_hasEnough 64 = .ok (.iconst 0, 1) := by decide +kernel
theorem dX12_hasEnough_65 : decode cX12_hasEnough 65 = .ok (.ireturn, 1) := by decide +kernel
theorem dX12_holder_0 : decode cX12_holder 0 = .ok (.aload_n 0, 1) := by decide +kernel
theorem dX12_holder_1 : decode cX12_holder 1 = .ok (.iconst 0, 1) := by decide +kernel
theorem dX12_holder_2 : decode cX12_holder 2 = .ok (.putfield 1, 3) := by decide +kernel
theorem dX12_holder_5 : decode cX12_holder 5 = .ok (.aload_n 0, 1) := by decide +kernel
theorem dX12_holder_6 : decode cX12_holder 6 = .ok (.iload_n 1, 1) := by decide +kernel
theorem dX12_holder_7 : decode cX12_holder 7 = .ok (.invokevirtual 246, 3) := by decide +kernel
theorem dX12_holder_10 : decode cX12_holder 10 = .ok (.ifCond .eq 11, 3) := by decide +kernel
theorem dX12_holder_21 : decode cX12_holder 21 = .ok (.bipush (-2), 2) := by decide +kernel
theorem dX12_holder_23 : decode cX12_holder 23 = .ok (.ireturn, 1) := by decide +kernel
theorem dX12_howLong_0 : decode cX12_howLong 0 = .ok (.aload_n 0, 1) := by decide +kernel
theorem dX12_howLong_1 : decode cX12_howLong 1 = .ok (.iconst 0, 1) := by decide +kernel
theorem dX12_howLong_2 : decode cX12_howLong 2 = .ok (.putfield 1, 3) := by decide +kernel
theorem dX12_howLong_5 : decode cX12_howLong 5 = .ok (.aload_n 0, 1) := by decide +kernel
theorem dX12_howLong_6 : decode cX12_howLong 6 = .ok (.iload_n 1, 1) := by decide +kernel
theorem dX12_howLong_7 : decode cX12_howLong 7 = .ok (.invokevirtual 236, 3) := by decide +kernel
theorem dX12_howLong_10 : decode cX12_howLong 10 = .ok (.ifCond .eq 20, 3) := by decide +kernel
theorem dX12_howLong_30 : decode cX12_howLong 30 = .ok (.iconst (-1), 1) := by decide +kernel
theorem dX12_howLong_31 : decode cX12_howLong 31 = .ok (.ireturn, 1) := by decide +kernel
theorem dX12_image_0 : decode cX12_image 0 = .ok (.aload_n 0, 1) := by decide +kernel
theorem dX12_image_1 : decode cX12_image 1 = .ok (.iconst 0, 1) := by decide +kernel
theorem dX12_image_2 : decode cX12_image 2 = .ok (.putfield 1, 3) := by decide +kernel
theorem dX12_image_5 : decode cX12_image 5 = .ok (.iload_n 1, 1) := by decide +kernel
theorem dX12_image_6 : decode cX12_image 6 = .ok (.iconst 0, 1) := by decide +kernel
theorem dX12_image_7 : decode cX12_image 7 = .ok (.iconst 1, 1) := by decide +kernel
theorem dX12_image_8 : decode cX12_image 8 = .ok (.invokestatic 177, 3) := by decide +kernel
theorem dX12_image_11 : decode cX12_image 11 = .ok (.ifCond .ne 5, 3) := by decide +kernel
theorem dX12_image_14 : decode cX12_image 14 = .ok (.iconst 0, 1) := by decide +kernel
theorem dX12_image_15 : decode cX12_image 15 = .ok (.ireturn, 1) := by decide +kernel
theorem dX12_image_16 : decode cX12_image 16 = .ok (.iconst 0, 1) := by decide +kernel
theorem dX12_image_17 : decode cX12_image 17 = .ok (.istore_n 2, 1) := by decide +kernel
theorem dX12_image_18 : decode cX12_image 18 = .ok (.iload_n 2, 1) := by decide +kernel
theorem dX12_image_19 : decode cX12_image 19 = .ok (.sipush 2187, 3) := by decide +kernel
theorem dX12_image_22 : decode cX12_image 22 = .ok (.if_icmp .ge 27, 3) := by decide +kernel
theorem dX12_image_25 : decode cX12_image 25 = .ok (.aload_n 0, 1) := by decide +kernel
theorem dX12_image_26 : decode cX12_image 26 = .ok (.getfield 72, 3) := by decide +kernel
theorem dX12_image_29 : decode cX12_image 29 = .ok (.sipush 2187, 3) := by decide +kernel
theorem dX12_image_32 : decode cX12_image 32 = .ok (.iload_n 1, 1) := by decide +kernel
theorem dX12_image_33 : decode cX12_image 33 = .ok (.imul, 1) := by decide +kernel
theorem dX12_image_34 : decode cX12_image 34 = .ok (.iload_n 2, 1) := by decide +kernel
theorem dX12_image_35 : decode cX12_image 35 = .ok (.iadd, 1) := by decide +kernel
theorem dX12_image_36 : decode cX12_image 36 = .ok (.aload_n 0, 1) := by decide +kernel
theorem dX12_image_37 : decode cX12_image 37 = .ok (.getfield 33, 3) := by decide +kernel
theorem dX12_image_40 : decode cX12_image 40 = .ok (.iload_n 2, 1) := by decide +kernel
theorem dX12_image_41 : decode cX12_image 41 = .ok (.iaload, 1) := by decide +kernel
theorem dX12_image_42 : decode cX12_image 42 = .ok (.iastore, 1) := by decide +kernel
theorem dX12_image_43 : decode cX12_image 43 = .ok (.iinc 2 1, 3) := by decide +kernel
theorem dX12_image_46 : decode cX12_image 46 = .ok (.goto (-28), 3) := by decide +kernel
theorem dX12_image_49 : decode cX12_image 49 = .ok (.iconst 0, 1) := by decide +kernel
theorem dX12_image_50 : decode cX12_image 50 = .ok (.istore_n 2, 1) := by decide +kernel
theorem dX12_image_51 : decode cX12_image 51 = .ok (.iload_n 2, 1) := by decide +kernel
theorem dX12_image_52 : decode cX12_image 52 = .ok (.bipush 18, 2) := by decide +kernel
theorem dX12_image_54 : decode cX12_image 54 = .ok (.if_icmp .ge 26, 3) := by decide +kernel
theorem dX12_image_57 : decode cX12_image 57 = .ok (.aload_n 0, 1) := by decide +kernel
theorem dX12_image_58 : decode cX12_image 58 = .ok (.getfield 75, 3) := by decide +kernel
theorem dX12_image_61 : decode cX12_image 61 = .ok (.bipush 18, 2) := by decide +kernel
theorem dX12_image_63 : decode cX12_image 63 = .ok (.iload_n 1, 1) := by decide +kernel
theorem dX12_image_64 : decode cX12_image 64 = .ok (.imul, 1) := by decide +kernel
theorem dX12_image_65 : decode cX12_image 65 = .ok (.iload_n 2, 1) := by decide +kernel
