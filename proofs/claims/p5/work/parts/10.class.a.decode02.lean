theorem dX10_point_54 : decode cX10_point 54 = .ok (.aload_n 0, 1) := by decide +kernel
theorem dX10_point_55 : decode cX10_point 55 = .ok (.getfield 22, 3) := by decide +kernel
theorem dX10_point_58 : decode cX10_point 58 = .ok (.getfield 68, 3) := by decide +kernel
theorem dX10_point_61 : decode cX10_point 61 = .ok (.iload_n 2, 1) := by decide +kernel
theorem dX10_point_62 : decode cX10_point 62 = .ok (.iaload, 1) := by decide +kernel
theorem dX10_point_63 : decode cX10_point 63 = .ok (.iconst (-1), 1) := by decide +kernel
theorem dX10_point_64 : decode cX10_point 64 = .ok (.if_icmp .eq 24, 3) := by decide +kernel
theorem dX10_point_67 : decode cX10_point 67 = .ok (.aload_n 0, 1) := by decide +kernel
theorem dX10_point_68 : decode cX10_point 68 = .ok (.getfield 22, 3) := by decide +kernel
theorem dX10_point_71 : decode cX10_point 71 = .ok (.getfield 71, 3) := by decide +kernel
theorem dX10_point_74 : decode cX10_point 74 = .ok (.iload_n 3, 1) := by decide +kernel
theorem dX10_point_75 : decode cX10_point 75 = .ok (.iaload, 1) := by decide +kernel
theorem dX10_point_76 : decode cX10_point 76 = .ok (.iconst (-1), 1) := by decide +kernel
theorem dX10_point_77 : decode cX10_point 77 = .ok (.if_icmp .eq 11, 3) := by decide +kernel
theorem dX10_point_80 : decode cX10_point 80 = .ok (.iload_n 1, 1) := by decide +kernel
theorem dX10_point_81 : decode cX10_point 81 = .ok (.iload_n 3, 1) := by decide +kernel
theorem dX10_point_82 : decode cX10_point 82 = .ok (.invokestatic 74, 3) := by decide +kernel
theorem dX10_point_85 : decode cX10_point 85 = .ok (.ifCond .eq 5, 3) := by decide +kernel
theorem dX10_point_88 : decode cX10_point 88 = .ok (.iconst 0, 1) := by decide +kernel
theorem dX10_point_89 : decode cX10_point 89 = .ok (.ireturn, 1) := by decide +kernel
theorem dX10_point_90 : decode cX10_point 90 = .ok (.iload_n 1, 1) := by decide +kernel
theorem dX10_point_91 : decode cX10_point 91 = .ok (.iconst 1, 1) := by decide +kernel
theorem dX10_point_92 : decode cX10_point 92 = .ok (.iload_n 3, 1) := by decide +kernel
theorem dX10_point_93 : decode cX10_point 93 = .ok (.ishl, 1) := by decide +kernel
theorem dX10_point_94 : decode cX10_point 94 = .ok (.ior, 1) := by decide +kernel
theorem dX10_point_95 : decode cX10_point 95 = .ok (.istore_n 1, 1) := by decide +kernel
theorem dX10_point_96 : decode cX10_point 96 = .ok (.aload_n 0, 1) := by decide +kernel
theorem dX10_point_97 : decode cX10_point 97 = .ok (.getfield 9, 3) := by decide +kernel
theorem dX10_point_100 : decode cX10_point 100 = .ok (.iload_n 2, 1) := by decide +kernel
theorem dX10_point_101 : decode cX10_point 101 = .ok (.aload_n 0, 1) := by decide +kernel
theorem dX10_point_102 : decode cX10_point 102 = .ok (.getfield 22, 3) := by decide +kernel
theorem dX10_point_105 : decode cX10_point 105 = .ok (.getfield 71, 3) := by decide +kernel
theorem dX10_point_108 : decode cX10_point 108 = .ok (.iload_n 3, 1) := by decide +kernel
theorem dX10_point_109 : decode cX10_point 109 = .ok (.iaload, 1) := by decide +kernel
theorem dX10_point_110 : decode cX10_point 110 = .ok (.iastore, 1) := by decide +kernel
theorem dX10_point_111 : decode cX10_point 111 = .ok (.iinc 2 1, 3) := by decide +kernel
theorem dX10_point_114 : decode cX10_point 114 = .ok (.goto (-110), 3) := by decide +kernel
theorem dX10_point_117 : decode cX10_point 117 = .ok (.iconst 1, 1) := by decide +kernel
theorem dX10_point_118 : decode cX10_point 118 = .ok (.ireturn, 1) := by decide +kernel
theorem dX11_areTwo_0 : decode cX11_areTwo 0 = .ok (.aload_n 0, 1) := by decide +kernel
theorem dX11_areTwo_1 : decode cX11_areTwo 1 = .ok (.getfield 19, 3) := by decide +kernel
theorem dX11_areTwo_4 : decode cX11_areTwo 4 = .ok (.iload_n 1, 1) := by decide +kernel
theorem dX11_areTwo_5 : decode cX11_areTwo 5 = .ok (.invokevirtual 169, 3) := by decide +kernel
theorem dX11_areTwo_8 : decode cX11_areTwo 8 = .ok (.ifCond .eq 23, 3) := by decide +kernel
theorem dX11_areTwo_11 : decode cX11_areTwo 11 = .ok (.aload_n 0, 1) := by decide +kernel
theorem dX11_areTwo_12 : decode cX11_areTwo 12 = .ok (.getfield 19, 3) := by decide +kernel
theorem dX11_areTwo_15 : decode cX11_areTwo 15 = .ok (.iload_n 2, 1) := by decide +kernel
theorem dX11_areTwo_16 : decode cX11_areTwo 16 = .ok (.invokevirtual 169, 3) := by decide +kernel
theorem dX11_areTwo_19 : decode cX11_areTwo 19 = .ok (.ifCond .eq 12, 3) := by decide +kernel
theorem dX11_areTwo_22 : decode cX11_areTwo 22 = .ok (.iload_n 1, 1) := by decide +kernel
theorem dX11_areTwo_23 : decode cX11_areTwo 23 = .ok (.iload_n 2, 1) := by decide +kernel
theorem dX11_areTwo_24 : decode cX11_areTwo 24 = .ok (.if_icmp .eq 7, 3) := by decide +kernel
theorem dX11_areTwo_27 : decode cX11_areTwo 27 = .ok (.iconst 1, 1) := by decide +kernel
theorem dX11_areTwo_28 : decode cX11_areTwo 28 = .ok (.goto 4, 3) := by decide +kernel
theorem dX11_areTwo_31 : decode cX11_areTwo 31 = .ok (.iconst 0, 1) := by decide +kernel
theorem dX11_areTwo_32 : decode cX11_areTwo 32 = .ok (.ireturn, 1) := by decide +kernel
theorem dX11_attempt_0 : decode cX11_attempt 0 = .ok (.aload_n 0, 1) := by decide +kernel
theorem dX11_attempt_1 : decode cX11_attempt 1 = .ok (.getfield 40, 3) := by decide +kernel
theorem dX11_attempt_4 : decode cX11_attempt 4 = .ok (.iload_n 1, 1) := by decide +kernel
theorem dX11_attempt_5 : decode cX11_attempt 5 = .ok (.iload_n 2, 1) := by decide +kernel
theorem dX11_attempt_6 : decode cX11_attempt 6 = .ok (.iload_n 3, 1) := by decide +kernel
theorem dX11_attempt_7 : decode cX11_attempt 7 = .ok (.invokevirtual 364, 3) := by decide +kernel
theorem dX11_attempt_10 : decode cX11_attempt 10 = .ok (.istore 4, 2) := by decide +kernel
theorem dX11_attempt_12 : decode cX11_attempt 12 = .ok (.iload 4, 2) := by decide +kernel
theorem dX11_attempt_14 : decode cX11_attempt 14 = .ok (.ifCond .ne 24, 3) := by decide +kernel
theorem dX11_attempt_17 : decode cX11_attempt 17 = .ok (.aload_n 0, 1) := by decide +kernel
theorem dX11_attempt_18 : decode cX11_attempt 18 = .ok (.getfield 50, 3) := by decide +kernel
theorem dX11_attempt_21 : decode cX11_attempt 21 = .ok (.aload_n 0, 1) := by decide +kernel
theorem dX11_attempt_22 : decode cX11_attempt 22 = .ok (.getfield 40, 3) := by decide +kernel
theorem dX11_attempt_25 : decode cX11_attempt 25 = .ok (.invokevirtual 237, 3) := by decide +kernel
theorem dX11_attempt_28 : decode cX11_attempt 28 = .ok (.aload_n 0, 1) := by decide +kernel
theorem dX11_attempt_29 : decode cX11_attempt 29 = .ok (.getfield 40, 3) := by decide +kernel
theorem dX11_attempt_32 : decode cX11_attempt 32 = .ok (.iload_n 1, 1) := by decide +kernel
theorem dX11_attempt_33 : decode cX11_attempt 33 = .ok (.iload_n 2, 1) := by decide +kernel
theorem dX11_attempt_34 : decode cX11_attempt 34 = .ok (.iload_n 3, 1) := by decide +kernel
theorem dX11_attempt_35 : decode cX11_attempt 35 = .ok (.invokevirtual 367, 3) := by decide +kernel
theorem dX11_attempt_38 : decode cX11_attempt 38 = .ok (.iload 4, 2) := by decide +kernel
theorem dX11_attempt_40 : decode cX11_attempt 40 = .ok (.ireturn, 1) := by decide +kernel
theorem dX11_bearers_0 : decode cX11_bearers 0 = .ok (.aload_n 0, 1) := by decide +kernel
theorem dX11_bearers_1 : decode cX11_bearers 1 = .ok (.getfield 19, 3) := by decide +kernel
theorem dX11_bearers_4 : decode cX11_bearers 4 = .ok (.iload_n 1, 1) := by decide +kernel
theorem dX11_bearers_5 : decode cX11_bearers 5 = .ok (.invokevirtual 143, 3) := by decide +kernel
theorem dX11_bearers_8 : decode cX11_bearers 8 = .ok (.ifCond .ne 5, 3) := by decide +kernel
theorem dX11_bearers_11 : decode cX11_bearers 11 = .ok (.iconst (-1), 1) := by decide +kernel
theorem dX11_bearers_12 : decode cX11_bearers 12 = .ok (.ireturn, 1) := by decide +kernel
theorem dX11_bearers_13 : decode cX11_bearers 13 = .ok (.iconst 0, 1) := by decide +kernel
theorem dX11_bearers_14 : decode cX11_bearers 14 = .ok (.istore_n 2, 1) := by decide +kernel
theorem dX11_bearers_15 : decode cX11_bearers 15 = .ok (.iconst 0, 1) := by decide +kernel
theorem dX11_bearers_16 : decode cX11_bearers 16 = .ok (.istore_n 3, 1) := by decide +kernel
theorem dX11_bearers_17 : decode cX11_bearers 17 = .ok (.iload_n 3, 1) := by decide +kernel
theorem dX11_bearers_18 : decode cX11_bearers 18 = .ok (.aload_n 0, 1) := by decide +kernel
theorem dX11_bearers_19 : decode cX11_bearers 19 = .ok (.getfield 19, 3) := by decide +kernel
theorem dX11_bearers_22 : decode cX11_bearers 22 = .ok (.getfield 216, 3) := by decide +kernel
theorem dX11_bearers_25 : decode cX11_bearers 25 = .ok (.if_icmp .ge 24, 3) := by decide +kernel
theorem dX11_bearers_28 : decode cX11_bearers 28 = .ok (.aload_n 0, 1) := by decide +kernel
theorem dX11_bearers_29 : decode cX11_bearers 29 = .ok (.getfield 40, 3) := by decide +kernel
theorem dX11_bearers_32 : decode cX11_bearers 32 = .ok (.iload_n 3, 1) := by decide +kernel
theorem dX11_bearers_33 : decode cX11_bearers 33 = .ok (.iload_n 1, 1) := by decide +kernel
theorem dX11_bearers_34 : decode cX11_bearers 34 = .ok (.invokevirtual 272, 3) := by decide +kernel
theorem dX11_bearers_37 : decode cX11_bearers 37 = .ok (.ifCond .le 6, 3) := by decide +kernel
theorem dX11_bearers_40 : decode cX11_bearers 40 = .ok (.iinc 2 1, 3) := by decide +kernel
theorem dX11_bearers_43 : decode cX11_bearers 43 = .ok (.iinc 3 1, 3) := by decide +kernel
theorem dX11_bearers_46 : decode cX11_bearers 46 = .ok (.goto (-29), 3) := by decide +kernel
theorem dX11_bearers_49 : decode cX11_bearers 49 = .ok (.iload_n 2, 1) := by decide +kernel
theorem dX11_bearers_50 : decode cX11_bearers 50 = .ok (.ireturn, 1) := by decide +kernel
theorem dX11_bid_0 : decode cX11_bid 0 = .ok (.aload_n 0, 1) := by decide +kernel
theorem dX11_bid_1 : decode cX11_bid 1 = .ok (.getfield 19, 3) := by decide +kernel
theorem dX11_bid_4 : decode cX11_bid 4 = .ok (.iload_n 1, 1) := by decide +kernel
theorem dX11_bid_5 : decode cX11_bid 5 = .ok (.invokevirtual 143, 3) := by decide +kernel
theorem dX11_bid_8 : decode cX11_bid 8 = .ok (.ifCond .eq 25, 3) := by decide +kernel
theorem dX11_bid_11 : decode cX11_bid 11 = .ok (.aload_n 0, 1) := by decide +kernel
theorem dX11_bid_12 : decode cX11_bid 12 = .ok (.getfield 83, 3) := by decide +kernel
theorem dX11_bid_15 : decode cX11_bid 15 = .ok (.iload_n 1, 1) := by decide +kernel
theorem dX11_bid_16 : decode cX11_bid 16 = .ok (.invokevirtual 284, 3) := by decide +kernel
theorem dX11_bid_19 : decode cX11_bid 19 = .ok (.iconst (-1), 1) := by decide +kernel
theorem dX11_bid_20 : decode cX11_bid 20 = .ok (.if_icmp .eq 13, 3) := by decide +kernel
theorem dX11_bid_23 : decode cX11_bid 23 = .ok (.aload_n 0, 1) := by decide +kernel
theorem dX11_bid_24 : decode cX11_bid 24 = .ok (.getfield 83, 3) := by decide +kernel
theorem dX11_bid_27 : decode cX11_bid 27 = .ok (.getfield 287, 3) := by decide +kernel
theorem dX11_bid_30 : decode cX11_bid 30 = .ok (.goto 4, 3) := by decide +kernel
theorem dX11_bid_33 : decode cX11_bid 33 = .ok (.iconst (-1), 1) := by decide +kernel
theorem dX11_bid_34 : decode cX11_bid 34 = .ok (.ireturn, 1) := by decide +kernel
theorem dX11_bidder_0 : decode cX11_bidder 0 = .ok (.aload_n 0, 1) := by decide +kernel
theorem dX11_bidder_1 : decode cX11_bidder 1 = .ok (.getfield 19, 3) := by decide +kernel
theorem dX11_bidder_4 : decode cX11_bidder 4 = .ok (.iload_n 1, 1) := by decide +kernel
theorem dX11_bidder_5 : decode cX11_bidder 5 = .ok (.invokevirtual 143, 3) := by decide +kernel
theorem dX11_bidder_8 : decode cX11_bidder 8 = .ok (.ifCond .eq 14, 3) := by decide +kernel
theorem dX11_bidder_11 : decode cX11_bidder 11 = .ok (.aload_n 0, 1) := by decide +kernel
theorem dX11_bidder_12 : decode cX11_bidder 12 = .ok (.getfield 83, 3) := by decide +kernel
theorem dX11_bidder_15 : decode cX11_bidder 15 = .ok (.iload_n 1, 1) := by decide +kernel
theorem dX11_bidder_16 : decode cX11_bidder 16 = .ok (.invokevirtual 284, 3) := by decide +kernel
theorem dX11_bidder_19 : decode cX11_bidder 19 = .ok (.goto 4, 3) := by decide +kernel
theorem dX11_bidder_22 : decode cX11_bidder 22 = .ok (.iconst (-1), 1) := by decide +kernel
theorem dX11_bidder_23 : decode cX11_bidder 23 = .ok (.ireturn, 1) := by decide +kernel
theorem dX11_called_0 : decode cX11_called 0 = .ok (.aload_n 0, 1) := by decide +kernel
theorem dX11_called_1 : decode cX11_called 1 = .ok (.getfield 19, 3) := by decide +kernel
theorem dX11_called_4 : decode cX11_called 4 = .ok (.iload_n 1, 1) := by decide +kernel
theorem dX11_called_5 : decode cX11_called 5 = .ok (.invokevirtual 169, 3) := by decide +kernel
theorem dX11_called_8 : decode cX11_called 8 = .ok (.ifCond .eq 26, 3) := by decide +kernel
theorem dX11_called_11 : decode cX11_called 11 = .ok (.aload_n 0, 1) := by decide +kernel
theorem dX11_called_12 : decode cX11_called 12 = .ok (.getfield 40, 3) := by decide +kernel
theorem dX11_called_15 : decode cX11_called 15 = .ok (.iload_n 2, 1) := by decide +kernel
theorem dX11_called_16 : decode cX11_called 16 = .ok (.invokevirtual 263, 3) := by decide +kernel
theorem dX11_called_19 : decode cX11_called 19 = .ok (.ifCond .eq 15, 3) := by decide +kernel
theorem dX11_called_22 : decode cX11_called 22 = .ok (.aload_n 0, 1) := by decide +kernel
theorem dX11_called_23 : decode cX11_called 23 = .ok (.getfield 40, 3) := by decide +kernel
theorem dX11_called_26 : decode cX11_called 26 = .ok (.iload_n 1, 1) := by decide +kernel
theorem dX11_called_27 : decode cX11_called 27 = .ok (.iload_n 2, 1) := by decide +kernel
theorem dX11_called_28 : decode cX11_called 28 = .ok (.invokevirtual 266, 3) := by decide +kernel
theorem dX11_called_31 : decode cX11_called 31 = .ok (.goto 5, 3) := by decide +kernel
theorem dX11_called_34 : decode cX11_called 34 = .ok (.bipush (-2), 2) := by decide +kernel
theorem dX11_called_36 : decode cX11_called 36 = .ok (.ireturn, 1) := by decide +kernel
theorem dX11_cheapest_0 : decode cX11_cheapest 0 = .ok (.aload_n 0, 1) := by decide +kernel
theorem dX11_cheapest_1 : decode cX11_cheapest 1 = .ok (.getfield 83, 3) := by decide +kernel
theorem dX11_cheapest_4 : decode cX11_cheapest 4 = .ok (.getfield 313, 3) := by decide +kernel
theorem dX11_cheapest_7 : decode cX11_cheapest 7 = .ok (.ireturn, 1) := by decide +kernel
theorem dX11_copyRow_0 : decode cX11_copyRow 0 = .ok (.aload_n 0, 1) := by decide +kernel
theorem dX11_copyRow_1 : decode cX11_copyRow 1 = .ok (.iconst 0, 1) := by decide +kernel
theorem dX11_copyRow_2 : decode cX11_copyRow 2 = .ok (.aload_n 1, 1) := by decide +kernel
theorem dX11_copyRow_3 : decode cX11_copyRow 3 = .ok (.iconst 0, 1) := by decide +kernel
theorem dX11_copyRow_4 : decode cX11_copyRow 4 = .ok (.aload_n 0, 1) := by decide +kernel
theorem dX11_copyRow_5 : decode cX11_copyRow 5 = .ok (.arraylength, 1) := by decide +kernel
theorem dX11_copyRow_6 : decode cX11_copyRow 6 = .ok (.aload_n 1, 1) := by decide +kernel
theorem dX11_copyRow_7 : decode cX11_copyRow 7 = .ok (.arraylength, 1) := by decide +kernel
theorem dX11_copyRow_8 : decode cX11_copyRow 8 = .ok (.invokestatic 248, 3) := by decide +kernel
theorem dX11_copyRow_11 : decode cX11_copyRow 11 = .ok (.invokestatic 377, 3) := by decide +kernel
theorem dX11_copyRow_14 : decode cX11_copyRow 14 = .ok (.return_, 1) := by decide +kernel
theorem dX11_copyRow__0 : decode cX11_copyRow_ 0 = .ok (.aload_n 0, 1) := by decide +kernel
theorem dX11_copyRow__1 : decode cX11_copyRow_ 1 = .ok (.iconst 0, 1) := by decide +kernel
theorem dX11_copyRow__2 : decode cX11_copyRow_ 2 = .ok (.aload_n 1, 1) := by decide +kernel
theorem dX11_copyRow__3 : decode cX11_copyRow_ 3 = .ok (.iconst 0, 1) := by decide +kernel
theorem dX11_copyRow__4 : decode cX11_copyRow_ 4 = .ok (.aload_n 0, 1) := by decide +kernel
theorem dX11_copyRow__5 : decode cX11_copyRow_ 5 = .ok (.arraylength, 1) := by decide +kernel
theorem dX11_copyRow__6 : decode cX11_copyRow_ 6 = .ok (.aload_n 1, 1) := by decide +kernel
theorem dX11_copyRow__7 : decode cX11_copyRow_ 7 = .ok (.arraylength, 1) := by decide +kernel
theorem dX11_copyRow__8 : decode cX11_copyRow_ 8 = .ok (.invokestatic 248, 3) := by decide +kernel
theorem dX11_copyRow__11 : decode cX11_copyRow_ 11 = .ok (.invokestatic 377, 3) := by decide +kernel
theorem dX11_copyRow__14 : decode cX11_copyRow_ 14 = .ok (.return_, 1) := by decide +kernel
theorem dX11_count_0 : decode cX11_count 0 = .ok (.iload_n 1, 1) := by decide +kernel
theorem dX11_count_1 : decode cX11_count 1 = .ok (.tableswitch 51 0 2 #[27, 35, 43], 27) := by decide +kernel
theorem dX11_count_28 : decode cX11_count 28 = .ok (.aload_n 0, 1) := by decide +kernel
theorem dX11_count_29 : decode cX11_count 29 = .ok (.getfield 19, 3) := by decide +kernel
theorem dX11_count_32 : decode cX11_count 32 = .ok (.getfield 223, 3) := by decide +kernel
theorem dX11_count_35 : decode cX11_count 35 = .ok (.ireturn, 1) := by decide +kernel
theorem dX11_count_36 : decode cX11_count 36 = .ok (.aload_n 0, 1) := by decide +kernel
theorem dX11_count_37 : decode cX11_count 37 = .ok (.getfield 19, 3) := by decide +kernel
theorem dX11_count_40 : decode cX11_count 40 = .ok (.getfield 216, 3) := by decide +kernel
theorem dX11_count_43 : decode cX11_count 43 = .ok (.ireturn, 1) := by decide +kernel
theorem dX11_count_44 : decode cX11_count 44 = .ok (.aload_n 0, 1) := by decide +kernel
theorem dX11_count_45 : decode cX11_count 45 = .ok (.getfield 10, 3) := by decide +kernel
theorem dX11_count_48 : decode cX11_count 48 = .ok (.getfield 111, 3) := by decide +kernel
theorem dX11_count_51 : decode cX11_count 51 = .ok (.ireturn, 1) := by decide +kernel
theorem dX11_count_52 : decode cX11_count 52 = .ok (.iconst (-1), 1) := by decide +kernel
theorem dX11_count_53 : decode cX11_count 53 = .ok (.ireturn, 1) := by decide +kernel
theorem dX11_die_0 : decode cX11_die 0 = .ok (.aload_n 0, 1) := by decide +kernel
theorem dX11_die_1 : decode cX11_die 1 = .ok (.getfield 19, 3) := by decide +kernel
theorem dX11_die_4 : decode cX11_die 4 = .ok (.iload_n 1, 1) := by decide +kernel
theorem dX11_die_5 : decode cX11_die 5 = .ok (.invokevirtual 169, 3) := by decide +kernel
theorem dX11_die_8 : decode cX11_die 8 = .ok (.ifCond .eq 12, 3) := by decide +kernel
theorem dX11_die_11 : decode cX11_die 11 = .ok (.iload_n 2, 1) := by decide +kernel
theorem dX11_die_12 : decode cX11_die 12 = .ok (.ifCond .lt 8, 3) := by decide +kernel
theorem dX11_die_15 : decode cX11_die 15 = .ok (.iload_n 2, 1) := by decide +kernel
theorem dX11_die_16 : decode cX11_die 16 = .ok (.iconst 1, 1) := by decide +kernel
theorem dX11_die_17 : decode cX11_die 17 = .ok (.if_icmp .le 5, 3) := by decide +kernel
theorem dX11_die_20 : decode cX11_die 20 = .ok (.iconst (-1), 1) := by decide +kernel
theorem dX11_die_21 : decode cX11_die 21 = .ok (.ireturn, 1) := by decide +kernel
theorem dX11_die_22 : decode cX11_die 22 = .ok (.aload_n 0, 1) := by decide +kernel
theorem dX11_die_23 : decode cX11_die 23 = .ok (.iload_n 2, 1) := by decide +kernel
theorem dX11_die_24 : decode cX11_die 24 = .ok (.ifCond .ne 7, 3) := by decide +kernel
theorem dX11_die_27 : decode cX11_die 27 = .ok (.iconst 3, 1) := by decide +kernel
theorem dX11_die_28 : decode cX11_die 28 = .ok (.goto 5, 3) := by decide +kernel
theorem dX11_die_31 : decode cX11_die 31 = .ok (.bipush 7, 2) := by decide +kernel
theorem dX11_die_33 : decode cX11_die 33 = .ok (.iload_n 1, 1) := by decide +kernel
theorem dX11_die_34 : decode cX11_die 34 = .ok (.iconst 0, 1) := by decide +kernel
theorem dX11_die_35 : decode cX11_die 35 = .ok (.invokevirtual 229, 3) := by decide +kernel
theorem dX11_die_38 : decode cX11_die 38 = .ok (.ireturn, 1) := by decide +kernel
theorem dX11_drawn_0 : decode cX11_drawn 0 = .ok (.iload_n 1, 1) := by decide +kernel
theorem dX11_drawn_1 : decode cX11_drawn 1 = .ok (.iconst 1, 1) := by decide +kernel
theorem dX11_drawn_2 : decode cX11_drawn 2 = .ok (.if_icmp .lt 29, 3) := by decide +kernel
theorem dX11_drawn_5 : decode cX11_drawn 5 = .ok (.iload_n 1, 1) := by decide +kernel
theorem dX11_drawn_6 : decode cX11_drawn 6 = .ok (.bipush 60, 2) := by decide +kernel
theorem dX11_drawn_8 : decode cX11_drawn 8 = .ok (.if_icmp .gt 23, 3) := by decide +kernel
theorem dX11_drawn_11 : decode cX11_drawn 11 = .ok (.aload_n 0, 1) := by decide +kernel
theorem dX11_drawn_12 : decode cX11_drawn 12 = .ok (.getfield 19, 3) := by decide +kernel
theorem dX11_drawn_15 : decode cX11_drawn 15 = .ok (.getfield 216, 3) := by decide +kernel
theorem dX11_drawn_18 : decode cX11_drawn 18 = .ok (.ifCond .eq 13, 3) := by decide +kernel
theorem dX11_drawn_21 : decode cX11_drawn 21 = .ok (.aload_n 0, 1) := by decide +kernel
theorem dX11_drawn_22 : decode cX11_drawn 22 = .ok (.getfield 19, 3) := by decide +kernel
theorem dX11_drawn_25 : decode cX11_drawn 25 = .ok (.getfield 223, 3) := by decide +kernel
theorem dX11_drawn_28 : decode cX11_drawn 28 = .ok (.ifCond .ne 5, 3) := by decide +kernel
theorem dX11_drawn_31 : decode cX11_drawn 31 = .ok (.iconst (-1), 1) := by decide +kernel
theorem dX11_drawn_32 : decode cX11_drawn 32 = .ok (.ireturn, 1) := by decide +kernel
theorem dX11_drawn_33 : decode cX11_drawn 33 = .ok (.aload_n 0, 1) := by decide +kernel
theorem dX11_drawn_34 : decode cX11_drawn 34 = .ok (.getfield 40, 3) := by decide +kernel
theorem dX11_drawn_37 : decode cX11_drawn 37 = .ok (.getfield 203, 3) := by decide +kernel
theorem dX11_drawn_40 : decode cX11_drawn 40 = .ok (.sipush 200, 3) := by decide +kernel
theorem dX11_drawn_43 : decode cX11_drawn 43 = .ok (.if_icmp .lt 5, 3) := by decide +kernel
theorem dX11_drawn_46 : decode cX11_drawn 46 = .ok (.iconst 0, 1) := by decide +kernel
theorem dX11_drawn_47 : decode cX11_drawn 47 = .ok (.ireturn, 1) := by decide +kernel
theorem dX11_drawn_48 : decode cX11_drawn 48 = .ok (.aload_n 0, 1) := by decide +kernel
theorem dX11_drawn_49 : decode cX11_drawn 49 = .ok (.getfield 50, 3) := by decide +kernel
theorem dX11_drawn_52 : decode cX11_drawn 52 = .ok (.aload_n 0, 1) := by decide +kernel
theorem dX11_drawn_53 : decode cX11_drawn 53 = .ok (.getfield 40, 3) := by decide +kernel
theorem dX11_drawn_56 : decode cX11_drawn 56 = .ok (.invokevirtual 237, 3) := by decide +kernel
theorem dX11_drawn_59 : decode cX11_drawn 59 = .ok (.aload_n 0, 1) := by decide +kernel
theorem dX11_drawn_60 : decode cX11_drawn 60 = .ok (.getfield 90, 3) := by decide +kernel
theorem dX11_drawn_63 : decode cX11_drawn 63 = .ok (.iload_n 2, 1) := by decide +kernel
theorem dX11_drawn_64 : decode cX11_drawn 64 = .ok (.putfield 241, 3) := by decide +kernel
theorem dX11_drawn_67 : decode cX11_drawn 67 = .ok (.aload_n 0, 1) := by decide +kernel
theorem dX11_drawn_68 : decode cX11_drawn 68 = .ok (.getfield 40, 3) := by decide +kernel
theorem dX11_drawn_71 : decode cX11_drawn 71 = .ok (.iload_n 1, 1) := by decide +kernel
theorem dX11_drawn_72 : decode cX11_drawn 72 = .ok (.aload_n 0, 1) := by decide +kernel
theorem dX11_drawn_73 : decode cX11_drawn 73 = .ok (.getfield 90, 3) := by decide +kernel
theorem dX11_drawn_76 : decode cX11_drawn 76 = .ok (.invokevirtual 322, 3) := by decide +kernel
theorem dX11_drawn_79 : decode cX11_drawn 79 = .ok (.ireturn, 1) := by decide +kernel
theorem dX11_end_0 : decode cX11_end 0 = .ok (.iload_n 1, 1) := by decide +kernel
theorem dX11_end_1 : decode cX11_end 1 = .ok (.ifCond .lt 14, 3) := by decide +kernel
theorem dX11_end_4 : decode cX11_end 4 = .ok (.iload_n 1, 1) := by decide +kernel
theorem dX11_end_5 : decode cX11_end 5 = .ok (.aload_n 0, 1) := by decide +kernel
theorem dX11_end_6 : decode cX11_end 6 = .ok (.getfield 10, 3) := by decide +kernel
theorem dX11_end_9 : decode cX11_end 9 = .ok (.getfield 111, 3) := by decide +kernel
theorem dX11_end_12 : decode cX11_end 12 = .ok (.if_icmp .le 5, 3) := by decide +kernel
theorem dX11_end_15 : decode cX11_end 15 = .ok (.iconst 0, 1) := by decide +kernel
theorem dX11_end_16 : decode cX11_end 16 = .ok (.ireturn, 1) := by decide +kernel
theorem dX11_end_17 : decode cX11_end 17 = .ok (.aload_n 0, 1) := by decide +kernel
theorem dX11_end_18 : decode cX11_end 18 = .ok (.getfield 10, 3) := by decide +kernel
theorem dX11_end_21 : decode cX11_end 21 = .ok (.iload_n 1, 1) := by decide +kernel
theorem dX11_end_22 : decode cX11_end 22 = .ok (.putfield 111, 3) := by decide +kernel
theorem dX11_end_25 : decode cX11_end 25 = .ok (.iconst 1, 1) := by decide +kernel
theorem dX11_end_26 : decode cX11_end 26 = .ok (.ireturn, 1) := by decide +kernel
theorem dX11_fault_0 : decode cX11_fault 0 = .ok (.aload_n 0, 1) := by decide +kernel
theorem dX11_fault_1 : decode cX11_fault 1 = .ok (.getfield 122, 3) := by decide +kernel
theorem dX11_fault_4 : decode cX11_fault 4 = .ok (.ireturn, 1) := by decide +kernel
theorem dX11_feasts_0 : decode cX11_feasts 0 = .ok (.aload_n 0, 1) := by decide +kernel
theorem dX11_feasts_1 : decode cX11_feasts 1 = .ok (.getfield 19, 3) := by decide +kernel
theorem dX11_feasts_4 : decode cX11_feasts 4 = .ok (.iload_n 1, 1) := by decide +kernel
theorem dX11_feasts_5 : decode cX11_feasts 5 = .ok (.invokevirtual 143, 3) := by decide +kernel
theorem dX11_feasts_8 : decode cX11_feasts 8 = .ok (.ifCond .eq 14, 3) := by decide +kernel
theorem dX11_feasts_11 : decode cX11_feasts 11 = .ok (.iload_n 2, 1) := by decide +kernel
theorem dX11_feasts_12 : decode cX11_feasts 12 = .ok (.iconst 1, 1) := by decide +kernel
theorem dX11_feasts_13 : decode cX11_feasts 13 = .ok (.if_icmp .lt 9, 3) := by decide +kernel
theorem dX11_feasts_16 : decode cX11_feasts 16 = .ok (.iload_n 2, 1) := by decide +kernel
theorem dX11_feasts_17 : decode cX11_feasts 17 = .ok (.bipush 99, 2) := by decide +kernel
theorem dX11_feasts_19 : decode cX11_feasts 19 = .ok (.if_icmp .le 5, 3) := by decide +kernel
theorem dX11_feasts_22 : decode cX11_feasts 22 = .ok (.iconst (-1), 1) := by decide +kernel
theorem dX11_feasts_23 : decode cX11_feasts 23 = .ok (.ireturn, 1) := by decide +kernel
theorem dX11_feasts_24 : decode cX11_feasts 24 = .ok (.aload_n 0, 1) := by decide +kernel
theorem dX11_feasts_25 : decode cX11_feasts 25 = .ok (.getfield 40, 3) := by decide +kernel
theorem dX11_feasts_28 : decode cX11_feasts 28 = .ok (.getfield 203, 3) := by decide +kernel
theorem dX11_feasts_31 : decode cX11_feasts 31 = .ok (.iload_n 2, 1) := by decide +kernel
theorem dX11_feasts_32 : decode cX11_feasts 32 = .ok (.iadd, 1) := by decide +kernel
theorem dX11_feasts_33 : decode cX11_feasts 33 = .ok (.sipush 200, 3) := by decide +kernel
theorem dX11_feasts_36 : decode cX11_feasts 36 = .ok (.invokestatic 248, 3) := by decide +kernel
theorem dX11_feasts_39 : decode cX11_feasts 39 = .ok (.istore_n 3, 1) := by decide +kernel
theorem dX11_feasts_40 : decode cX11_feasts 40 = .ok (.iconst 0, 1) := by decide +kernel
theorem dX11_feasts_41 : decode cX11_feasts 41 = .ok (.istore 4, 2) := by decide +kernel
theorem dX11_feasts_43 : decode cX11_feasts 43 = .ok (.aload_n 0, 1) := by decide +kernel
theorem dX11_feasts_44 : decode cX11_feasts 44 = .ok (.getfield 40, 3) := by decide +kernel
theorem dX11_feasts_47 : decode cX11_feasts 47 = .ok (.getfield 203, 3) := by decide +kernel
theorem dX11_feasts_50 : decode cX11_feasts 50 = .ok (.istore 5, 2) := by decide +kernel
theorem dX11_feasts_52 : decode cX11_feasts 52 = .ok (.iload 5, 2) := by decide +kernel
theorem dX11_feasts_54 : decode cX11_feasts 54 = .ok (.iload_n 3, 1) := by decide +kernel
theorem dX11_feasts_55 : decode cX11_feasts 55 = .ok (.if_icmp .ge 25, 3) := by decide +kernel
theorem dX11_feasts_58 : decode cX11_feasts 58 = .ok (.aload_n 0, 1) := by decide +kernel
theorem dX11_feasts_59 : decode cX11_feasts 59 = .ok (.getfield 19, 3) := by decide +kernel
theorem dX11_feasts_62 : decode cX11_feasts 62 = .ok (.iload_n 1, 1) := by decide +kernel
theorem dX11_feasts_63 : decode cX11_feasts 63 = .ok (.iload 5, 2) := by decide +kernel
theorem dX11_feasts_65 : decode cX11_feasts 65 = .ok (.invokevirtual 316, 3) := by decide +kernel
theorem dX11_feasts_68 : decode cX11_feasts 68 = .ok (.ifCond .eq 6, 3) := by decide +kernel
theorem dX11_feasts_71 : decode cX11_feasts 71 = .ok (.iinc 4 1, 3) := by decide +kernel
theorem dX11_feasts_74 : decode cX11_feasts 74 = .ok (.iinc 5 1, 3) := by decide +kernel
theorem dX11_feasts_77 : decode cX11_feasts 77 = .ok (.goto (-25), 3) := by decide +kernel
theorem dX11_feasts_80 : decode cX11_feasts 80 = .ok (.iload 4, 2) := by decide +kernel
theorem dX11_feasts_82 : decode cX11_feasts 82 = .ok (.ireturn, 1) := by decide +kernel
theorem dX11_feed_0 : decode cX11_feed 0 = .ok (.aload_n 0, 1) := by decide +kernel
theorem dX11_feed_1 : decode cX11_feed 1 = .ok (.getfield 10, 3) := by decide +kernel
theorem dX11_feed_4 : decode cX11_feed 4 = .ok (.bipush 20, 2) := by decide +kernel
theorem dX11_feed_6 : decode cX11_feed 6 = .ok (.invokevirtual 103, 3) := by decide +kernel
theorem dX11_feed_9 : decode cX11_feed 9 = .ok (.ifCond .ne 5, 3) := by decide +kernel
theorem dX11_feed_12 : decode cX11_feed 12 = .ok (.iconst (-1), 1) := by decide +kernel
theorem dX11_feed_13 : decode cX11_feed 13 = .ok (.ireturn, 1) := by decide +kernel
theorem dX11_feed_14 : decode cX11_feed 14 = .ok (.aload_n 0, 1) := by decide +kernel
theorem dX11_feed_15 : decode cX11_feed 15 = .ok (.getfield 10, 3) := by decide +kernel
theorem dX11_feed_18 : decode cX11_feed 18 = .ok (.iload_n 1, 1) := by decide +kernel
theorem dX11_feed_19 : decode cX11_feed 19 = .ok (.invokevirtual 107, 3) := by decide +kernel
theorem dX11_feed_22 : decode cX11_feed 22 = .ok (.aload_n 0, 1) := by decide +kernel
theorem dX11_feed_23 : decode cX11_feed 23 = .ok (.getfield 10, 3) := by decide +kernel
theorem dX11_feed_26 : decode cX11_feed 26 = .ok (.iload_n 2, 1) := by decide +kernel
theorem dX11_feed_27 : decode cX11_feed 27 = .ok (.invokevirtual 107, 3) := by decide +kernel
theorem dX11_feed_30 : decode cX11_feed 30 = .ok (.aload_n 0, 1) := by decide +kernel
theorem dX11_feed_31 : decode cX11_feed 31 = .ok (.getfield 10, 3) := by decide +kernel
theorem dX11_feed_34 : decode cX11_feed 34 = .ok (.iload_n 3, 1) := by decide +kernel
theorem dX11_feed_35 : decode cX11_feed 35 = .ok (.invokevirtual 107, 3) := by decide +kernel
theorem dX11_feed_38 : decode cX11_feed 38 = .ok (.aload_n 0, 1) := by decide +kernel
theorem dX11_feed_39 : decode cX11_feed 39 = .ok (.getfield 10, 3) := by decide +kernel
theorem dX11_feed_42 : decode cX11_feed 42 = .ok (.iload 4, 2) := by decide +kernel
theorem dX11_feed_44 : decode cX11_feed 44 = .ok (.invokevirtual 107, 3) := by decide +kernel
theorem dX11_feed_47 : decode cX11_feed 47 = .ok (.aload_n 0, 1) := by decide +kernel
theorem dX11_feed_48 : decode cX11_feed 48 = .ok (.getfield 10, 3) := by decide +kernel
theorem dX11_feed_51 : decode cX11_feed 51 = .ok (.iload 5, 2) := by decide +kernel
theorem dX11_feed_53 : decode cX11_feed 53 = .ok (.invokevirtual 107, 3) := by decide +kernel
theorem dX11_feed_56 : decode cX11_feed 56 = .ok (.aload_n 0, 1) := by decide +kernel
theorem dX11_feed_57 : decode cX11_feed 57 = .ok (.getfield 10, 3) := by decide +kernel
theorem dX11_feed_60 : decode cX11_feed 60 = .ok (.getfield 111, 3) := by decide +kernel
theorem dX11_feed_63 : decode cX11_feed 63 = .ok (.ireturn, 1) := by decide +kernel
theorem dX11_flee_0 : decode cX11_flee 0 = .ok (.aload_n 0, 1) := by decide +kernel
theorem dX11_flee_1 : decode cX11_flee 1 = .ok (.getfield 19, 3) := by decide +kernel
theorem dX11_flee_4 : decode cX11_flee 4 = .ok (.iload_n 1, 1) := by decide +kernel
theorem dX11_flee_5 : decode cX11_flee 5 = .ok (.invokevirtual 169, 3) := by decide +kernel
theorem dX11_flee_8 : decode cX11_flee 8 = .ok (.ifCond .eq 13, 3) := by decide +kernel
theorem dX11_flee_11 : decode cX11_flee 11 = .ok (.aload_n 0, 1) := by decide +kernel
theorem dX11_flee_12 : decode cX11_flee 12 = .ok (.iconst 4, 1) := by decide +kernel
theorem dX11_flee_13 : decode cX11_flee 13 = .ok (.iload_n 1, 1) := by decide +kernel
theorem dX11_flee_14 : decode cX11_flee 14 = .ok (.iconst 0, 1) := by decide +kernel
theorem dX11_flee_15 : decode cX11_flee 15 = .ok (.invokevirtual 229, 3) := by decide +kernel
theorem dX11_flee_18 : decode cX11_flee 18 = .ok (.goto 4, 3) := by decide +kernel
theorem dX11_flee_21 : decode cX11_flee 21 = .ok (.iconst (-1), 1) := by decide +kernel
theorem dX11_flee_22 : decode cX11_flee 22 = .ok (.ireturn, 1) := by decide +kernel
theorem dX11_hasBit_0 : decode cX11_hasBit 0 = .ok (.iload_n 0, 1) := by decide +kernel
theorem dX11_hasBit_1 : decode cX11_hasBit 1 = .ok (.iload_n 1, 1) := by decide +kernel
theorem dX11_hasBit_2 : decode cX11_hasBit 2 = .ok (.ishr, 1) := by decide +kernel
theorem dX11_hasBit_3 : decode cX11_hasBit 3 = .ok (.iconst 1, 1) := by decide +kernel
theorem dX11_hasBit_4 : decode cX11_hasBit 4 = .ok (.iand, 1) := by decide +kernel
theorem dX11_hasBit_5 : decode cX11_hasBit 5 = .ok (.iconst 1, 1) := by decide +kernel
theorem dX11_hasBit_6 : decode cX11_hasBit 6 = .ok (.if_icmp .ne 7, 3) := by decide +kernel
theorem dX11_hasBit_9 : decode cX11_hasBit 9 = .ok (.iconst 1, 1) := by decide +kernel
theorem dX11_hasBit_10 : decode cX11_hasBit 10 = .ok (.goto 4, 3) := by decide +kernel
theorem dX11_hasBit_13 : decode cX11_hasBit 13 = .ok (.iconst 0, 1) := by decide +kernel
theorem dX11_hasBit_14 : decode cX11_hasBit 14 = .ok (.ireturn, 1) := by decide +kernel
theorem dX11_holder_0 : decode cX11_holder 0 = .ok (.aload_n 0, 1) := by decide +kernel
theorem dX11_holder_1 : decode cX11_holder 1 = .ok (.getfield 19, 3) := by decide +kernel
theorem dX11_holder_4 : decode cX11_holder 4 = .ok (.iload_n 1, 1) := by decide +kernel
theorem dX11_holder_5 : decode cX11_holder 5 = .ok (.invokevirtual 143, 3) := by decide +kernel
theorem dX11_holder_8 : decode cX11_holder 8 = .ok (.ifCond .eq 26, 3) := by decide +kernel
theorem dX11_holder_11 : decode cX11_holder 11 = .ok (.aload_n 0, 1) := by decide +kernel
theorem dX11_holder_12 : decode cX11_holder 12 = .ok (.getfield 40, 3) := by decide +kernel
theorem dX11_holder_15 : decode cX11_holder 15 = .ok (.iload_n 2, 1) := by decide +kernel
theorem dX11_holder_16 : decode cX11_holder 16 = .ok (.invokevirtual 263, 3) := by decide +kernel
theorem dX11_holder_19 : decode cX11_holder 19 = .ok (.ifCond .eq 15, 3) := by decide +kernel
theorem dX11_holder_22 : decode cX11_holder 22 = .ok (.aload_n 0, 1) := by decide +kernel
theorem dX11_holder_23 : decode cX11_holder 23 = .ok (.getfield 40, 3) := by decide +kernel
theorem dX11_holder_26 : decode cX11_holder 26 = .ok (.iload_n 1, 1) := by decide +kernel
theorem dX11_holder_27 : decode cX11_holder 27 = .ok (.iload_n 2, 1) := by decide +kernel
theorem dX11_holder_28 : decode cX11_holder 28 = .ok (.invokevirtual 269, 3) := by decide +kernel
theorem dX11_holder_31 : decode cX11_holder 31 = .ok (.goto 5, 3) := by decide +kernel
theorem dX11_holder_34 : decode cX11_holder 34 = .ok (.bipush (-2), 2) := by decide +kernel
theorem dX11_holder_36 : decode cX11_holder 36 = .ok (.ireturn, 1) := by decide +kernel
theorem dX11_howLong_0 : decode cX11_howLong 0 = .ok (.aload_n 0, 1) := by decide +kernel
theorem dX11_howLong_1 : decode cX11_howLong 1 = .ok (.getfield 19, 3) := by decide +kernel
theorem dX11_howLong_4 : decode cX11_howLong 4 = .ok (.iload_n 1, 1) := by decide +kernel
theorem dX11_howLong_5 : decode cX11_howLong 5 = .ok (.invokevirtual 169, 3) := by decide +kernel
theorem dX11_howLong_8 : decode cX11_howLong 8 = .ok (.ifCond .eq 26, 3) := by decide +kernel
theorem dX11_howLong_11 : decode cX11_howLong 11 = .ok (.aload_n 0, 1) := by decide +kernel
theorem dX11_howLong_12 : decode cX11_howLong 12 = .ok (.getfield 19, 3) := by decide +kernel
theorem dX11_howLong_15 : decode cX11_howLong 15 = .ok (.iload_n 2, 1) := by decide +kernel
theorem dX11_howLong_16 : decode cX11_howLong 16 = .ok (.invokevirtual 143, 3) := by decide +kernel
theorem dX11_howLong_19 : decode cX11_howLong 19 = .ok (.ifCond .eq 15, 3) := by decide +kernel
theorem dX11_howLong_22 : decode cX11_howLong 22 = .ok (.aload_n 0, 1) := by decide +kernel
theorem dX11_howLong_23 : decode cX11_howLong 23 = .ok (.getfield 40, 3) := by decide +kernel
theorem dX11_howLong_26 : decode cX11_howLong 26 = .ok (.iload_n 1, 1) := by decide +kernel
