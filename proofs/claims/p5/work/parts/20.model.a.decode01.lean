theorem dX12_areTwo_0 : decode cX12_areTwo 0 = .ok (.aload_n 0, 1) := by decide +kernel
theorem dX12_areTwo_1 : decode cX12_areTwo 1 = .ok (.iload_n 1, 1) := by decide +kernel
theorem dX12_areTwo_2 : decode cX12_areTwo 2 = .ok (.invokevirtual 236, 3) := by decide +kernel
theorem dX12_areTwo_5 : decode cX12_areTwo 5 = .ok (.ifCond .eq 20, 3) := by decide +kernel
theorem dX12_areTwo_8 : decode cX12_areTwo 8 = .ok (.aload_n 0, 1) := by decide +kernel
theorem dX12_areTwo_9 : decode cX12_areTwo 9 = .ok (.iload_n 2, 1) := by decide +kernel
theorem dX12_areTwo_10 : decode cX12_areTwo 10 = .ok (.invokevirtual 236, 3) := by decide +kernel
theorem dX12_areTwo_13 : decode cX12_areTwo 13 = .ok (.ifCond .eq 12, 3) := by decide +kernel
theorem dX12_areTwo_16 : decode cX12_areTwo 16 = .ok (.iload_n 1, 1) := by decide +kernel
theorem dX12_areTwo_17 : decode cX12_areTwo 17 = .ok (.iload_n 2, 1) := by decide +kernel
theorem dX12_areTwo_18 : decode cX12_areTwo 18 = .ok (.if_icmp .eq 7, 3) := by decide +kernel
theorem dX12_areTwo_21 : decode cX12_areTwo 21 = .ok (.iconst 1, 1) := by decide +kernel
theorem dX12_areTwo_22 : decode cX12_areTwo 22 = .ok (.goto 4, 3) := by decide +kernel
theorem dX12_areTwo_25 : decode cX12_areTwo 25 = .ok (.iconst 0, 1) := by decide +kernel
theorem dX12_areTwo_26 : decode cX12_areTwo 26 = .ok (.ireturn, 1) := by decide +kernel
theorem dX12_back_0 : decode cX12_back 0 = .ok (.iconst 0, 1) := by decide +kernel
theorem dX12_back_1 : decode cX12_back 1 = .ok (.istore_n 1, 1) := by decide +kernel
theorem dX12_back_2 : decode cX12_back 2 = .ok (.iload_n 1, 1) := by decide +kernel
theorem dX12_back_3 : decode cX12_back 3 = .ok (.sipush 1860, 3) := by decide +kernel
theorem dX12_back_6 : decode cX12_back 6 = .ok (.if_icmp .ge 25, 3) := by decide +kernel
theorem dX12_back_9 : decode cX12_back 9 = .ok (.aload_n 0, 1) := by decide +kernel
theorem dX12_back_10 : decode cX12_back 10 = .ok (.getfield 33, 3) := by decide +kernel
theorem dX12_back_13 : decode cX12_back 13 = .ok (.sipush 146, 3) := by decide +kernel
theorem dX12_back_16 : decode cX12_back 16 = .ok (.iload_n 1, 1) := by decide +kernel
theorem dX12_back_17 : decode cX12_back 17 = .ok (.iadd, 1) := by decide +kernel
theorem dX12_back_18 : decode cX12_back 18 = .ok (.aload_n 0, 1) := by decide +kernel
theorem dX12_back_19 : decode cX12_back 19 = .ok (.getfield 53, 3) := by decide +kernel
theorem dX12_back_22 : decode cX12_back 22 = .ok (.iload_n 1, 1) := by decide +kernel
theorem dX12_back_23 : decode cX12_back 23 = .ok (.iaload, 1) := by decide +kernel
theorem dX12_back_24 : decode cX12_back 24 = .ok (.iastore, 1) := by decide +kernel
theorem dX12_back_25 : decode cX12_back 25 = .ok (.iinc 1 1, 3) := by decide +kernel
theorem dX12_back_28 : decode cX12_back 28 = .ok (.goto (-26), 3) := by decide +kernel
theorem dX12_back_31 : decode cX12_back 31 = .ok (.return_, 1) := by decide +kernel
theorem dX12_bad_0 : decode cX12_bad 0 = .ok (.aload_n 0, 1) := by decide +kernel
theorem dX12_bad_1 : decode cX12_bad 1 = .ok (.iload_n 1, 1) := by decide +kernel
theorem dX12_bad_2 : decode cX12_bad 2 = .ok (.putfield 162, 3) := by decide +kernel
theorem dX12_bad_5 : decode cX12_bad 5 = .ok (.aload_n 0, 1) := by decide +kernel
theorem dX12_bad_6 : decode cX12_bad 6 = .ok (.aload_n 0, 1) := by decide +kernel
theorem dX12_bad_7 : decode cX12_bad 7 = .ok (.getfield 139, 3) := by decide +kernel
theorem dX12_bad_10 : decode cX12_bad 10 = .ok (.putfield 165, 3) := by decide +kernel
theorem dX12_bad_13 : decode cX12_bad 13 = .ok (.iconst 0, 1) := by decide +kernel
theorem dX12_bad_14 : decode cX12_bad 14 = .ok (.ireturn, 1) := by decide +kernel
theorem dX12_bearers_0 : decode cX12_bearers 0 = .ok (.aload_n 0, 1) := by decide +kernel
theorem dX12_bearers_1 : decode cX12_bearers 1 = .ok (.iconst 0, 1) := by decide +kernel
theorem dX12_bearers_2 : decode cX12_bearers 2 = .ok (.putfield 1, 3) := by decide +kernel
theorem dX12_bearers_5 : decode cX12_bearers 5 = .ok (.aload_n 0, 1) := by decide +kernel
theorem dX12_bearers_6 : decode cX12_bearers 6 = .ok (.iload_n 1, 1) := by decide +kernel
theorem dX12_bearers_7 : decode cX12_bearers 7 = .ok (.invokevirtual 246, 3) := by decide +kernel
theorem dX12_bearers_10 : decode cX12_bearers 10 = .ok (.ifCond .ne 5, 3) := by decide +kernel
theorem dX12_bearers_13 : decode cX12_bearers 13 = .ok (.iconst (-1), 1) := by decide +kernel
theorem dX12_bearers_14 : decode cX12_bearers 14 = .ok (.ireturn, 1) := by decide +kernel
theorem dX12_bearers_15 : decode cX12_bearers 15 = .ok (.iconst 0, 1) := by decide +kernel
theorem dX12_bearers_16 : decode cX12_bearers 16 = .ok (.istore_n 2, 1) := by decide +kernel
theorem dX12_bearers_17 : decode cX12_bearers 17 = .ok (.iconst 0, 1) := by decide +kernel
theorem dX12_bearers_18 : decode cX12_bearers 18 = .ok (.istore_n 3, 1) := by decide +kernel
theorem dX12_bearers_19 : decode cX12_bearers 19 = .ok (.iload_n 3, 1) := by decide +kernel
theorem dX12_bearers_20 : decode cX12_bearers 20 = .ok (.aload_n 0, 1) := by decide +kernel
theorem dX12_bearers_21 : decode cX12_bearers 21 = .ok (.getfield 33, 3) := by decide +kernel
theorem dX12_bearers_24 : decode cX12_bearers 24 = .ok (.iconst 1, 1) := by decide +kernel
theorem dX12_bearers_25 : decode cX12_bearers 25 = .ok (.iaload, 1) := by decide +kernel
theorem dX12_bearers_26 : decode cX12_bearers 26 = .ok (.if_icmp .ge 26, 3) := by decide +kernel
theorem dX12_bearers_29 : decode cX12_bearers 29 = .ok (.iload_n 2, 1) := by decide +kernel
theorem dX12_bearers_30 : decode cX12_bearers 30 = .ok (.aload_n 0, 1) := by decide +kernel
theorem dX12_bearers_31 : decode cX12_bearers 31 = .ok (.iload_n 3, 1) := by decide +kernel
theorem dX12_bearers_32 : decode cX12_bearers 32 = .ok (.iload_n 1, 1) := by decide +kernel
theorem dX12_bearers_33 : decode cX12_bearers 33 = .ok (.invokevirtual 335, 3) := by decide +kernel
theorem dX12_bearers_36 : decode cX12_bearers 36 = .ok (.ifCond .le 7, 3) := by decide +kernel
theorem dX12_bearers_39 : decode cX12_bearers 39 = .ok (.iconst 1, 1) := by decide +kernel
theorem dX12_bearers_40 : decode cX12_bearers 40 = .ok (.goto 4, 3) := by decide +kernel
theorem dX12_bearers_43 : decode cX12_bearers 43 = .ok (.iconst 0, 1) := by decide +kernel
theorem dX12_bearers_44 : decode cX12_bearers 44 = .ok (.iadd, 1) := by decide +kernel
theorem dX12_bearers_45 : decode cX12_bearers 45 = .ok (.istore_n 2, 1) := by decide +kernel
theorem dX12_bearers_46 : decode cX12_bearers 46 = .ok (.iinc 3 1, 3) := by decide +kernel
theorem dX12_bearers_49 : decode cX12_bearers 49 = .ok (.goto (-30), 3) := by decide +kernel
theorem dX12_bearers_52 : decode cX12_bearers 52 = .ok (.iload_n 2, 1) := by decide +kernel
theorem dX12_bearers_53 : decode cX12_bearers 53 = .ok (.ireturn, 1) := by decide +kernel
theorem dX12_behind_0 : decode cX12_behind 0 = .ok (.aload_n 0, 1) := by decide +kernel
theorem dX12_behind_1 : decode cX12_behind 1 = .ok (.invokevirtual 439, 3) := by decide +kernel
theorem dX12_behind_4 : decode cX12_behind 4 = .ok (.aload_n 0, 1) := by decide +kernel
theorem dX12_behind_5 : decode cX12_behind 5 = .ok (.ldc2_w 115, 3) := by decide +kernel
theorem dX12_behind_8 : decode cX12_behind 8 = .ok (.invokevirtual 196, 3) := by decide +kernel
theorem dX12_behind_11 : decode cX12_behind 11 = .ok (.ifCond .ne 13, 3) := by decide +kernel
theorem dX12_behind_14 : decode cX12_behind 14 = .ok (.aload_n 0, 1) := by decide +kernel
theorem dX12_behind_15 : decode cX12_behind 15 = .ok (.ldc2_w 113, 3) := by decide +kernel
theorem dX12_behind_18 : decode cX12_behind 18 = .ok (.invokevirtual 196, 3) := by decide +kernel
theorem dX12_behind_21 : decode cX12_behind 21 = .ok (.ifCond .eq 71, 3) := by decide +kernel
theorem dX12_behind_24 : decode cX12_behind 24 = .ok (.aload_n 0, 1) := by decide +kernel
theorem dX12_behind_25 : decode cX12_behind 25 = .ok (.aload_n 0, 1) := by decide +kernel
theorem dX12_behind_26 : decode cX12_behind 26 = .ok (.ldc2_w 115, 3) := by decide +kernel
theorem dX12_behind_29 : decode cX12_behind 29 = .ok (.invokevirtual 196, 3) := by decide +kernel
theorem dX12_behind_32 : decode cX12_behind 32 = .ok (.ifCond .eq 8, 3) := by decide +kernel
theorem dX12_behind_35 : decode cX12_behind 35 = .ok (.bipush 21, 2) := by decide +kernel
theorem dX12_behind_37 : decode cX12_behind 37 = .ok (.goto 5, 3) := by decide +kernel
theorem dX12_behind_40 : decode cX12_behind 40 = .ok (.bipush 22, 2) := by decide +kernel
theorem dX12_behind_42 : decode cX12_behind 42 = .ok (.invokevirtual 442, 3) := by decide +kernel
theorem dX12_behind_45 : decode cX12_behind 45 = .ok (.aload_n 0, 1) := by decide +kernel
theorem dX12_behind_46 : decode cX12_behind 46 = .ok (.getfield 65, 3) := by decide +kernel
theorem dX12_behind_49 : decode cX12_behind 49 = .ok (.aload_n 0, 1) := by decide +kernel
theorem dX12_behind_50 : decode cX12_behind 50 = .ok (.getfield 421, 3) := by decide +kernel
theorem dX12_behind_53 : decode cX12_behind 53 = .ok (.aload_n 0, 1) := by decide +kernel
theorem dX12_behind_54 : decode cX12_behind 54 = .ok (.ldc2_w 115, 3) := by decide +kernel
theorem dX12_behind_57 : decode cX12_behind 57 = .ok (.invokevirtual 196, 3) := by decide +kernel
theorem dX12_behind_60 : decode cX12_behind 60 = .ok (.ifCond .eq 8, 3) := by decide +kernel
theorem dX12_behind_63 : decode cX12_behind 63 = .ok (.bipush 21, 2) := by decide +kernel
theorem dX12_behind_65 : decode cX12_behind 65 = .ok (.goto 5, 3) := by decide +kernel
theorem dX12_behind_68 : decode cX12_behind 68 = .ok (.bipush 22, 2) := by decide +kernel
theorem dX12_behind_70 : decode cX12_behind 70 = .ok (.iastore, 1) := by decide +kernel
theorem dX12_behind_71 : decode cX12_behind 71 = .ok (.aload_n 0, 1) := by decide +kernel
theorem dX12_behind_72 : decode cX12_behind 72 = .ok (.dup, 1) := by decide +kernel
theorem dX12_behind_73 : decode cX12_behind 73 = .ok (.getfield 421, 3) := by decide +kernel
theorem dX12_behind_76 : decode cX12_behind 76 = .ok (.iconst 1, 1) := by decide +kernel
theorem dX12_behind_77 : decode cX12_behind 77 = .ok (.iadd, 1) := by decide +kernel
theorem dX12_behind_78 : decode cX12_behind 78 = .ok (.putfield 421, 3) := by decide +kernel
theorem dX12_behind_81 : decode cX12_behind 81 = .ok (.aload_n 0, 1) := by decide +kernel
theorem dX12_behind_82 : decode cX12_behind 82 = .ok (.iconst 0, 1) := by decide +kernel
theorem dX12_behind_83 : decode cX12_behind 83 = .ok (.putfield 436, 3) := by decide +kernel
theorem dX12_behind_86 : decode cX12_behind 86 = .ok (.aload_n 0, 1) := by decide +kernel
theorem dX12_behind_87 : decode cX12_behind 87 = .ok (.invokevirtual 174, 3) := by decide +kernel
theorem dX12_behind_90 : decode cX12_behind 90 = .ok (.iconst 1, 1) := by decide +kernel
theorem dX12_behind_91 : decode cX12_behind 91 = .ok (.ireturn, 1) := by decide +kernel
theorem dX12_behind_92 : decode cX12_behind 92 = .ok (.aload_n 0, 1) := by decide +kernel
theorem dX12_behind_93 : decode cX12_behind 93 = .ok (.bipush 22, 2) := by decide +kernel
theorem dX12_behind_95 : decode cX12_behind 95 = .ok (.invokevirtual 442, 3) := by decide +kernel
theorem dX12_behind_98 : decode cX12_behind 98 = .ok (.aload_n 0, 1) := by decide +kernel
theorem dX12_behind_99 : decode cX12_behind 99 = .ok (.bipush 41, 2) := by decide +kernel
theorem dX12_behind_101 : decode cX12_behind 101 = .ok (.invokevirtual 168, 3) := by decide +kernel
theorem dX12_behind_104 : decode cX12_behind 104 = .ok (.ifCond .eq 10, 3) := by decide +kernel
theorem dX12_behind_107 : decode cX12_behind 107 = .ok (.aload_n 0, 1) := by decide +kernel
theorem dX12_behind_108 : decode cX12_behind 108 = .ok (.getfield 421, 3) := by decide +kernel
theorem dX12_behind_111 : decode cX12_behind 111 = .ok (.ifCond .ne 9, 3) := by decide +kernel
theorem dX12_behind_114 : decode cX12_behind 114 = .ok (.aload_n 0, 1) := by decide +kernel
theorem dX12_behind_115 : decode cX12_behind 115 = .ok (.iconst 1, 1) := by decide +kernel
theorem dX12_behind_116 : decode cX12_behind 116 = .ok (.invokevirtual 171, 3) := by decide +kernel
theorem dX12_behind_119 : decode cX12_behind 119 = .ok (.ireturn, 1) := by decide +kernel
theorem dX12_behind_120 : decode cX12_behind 120 = .ok (.aload_n 0, 1) := by decide +kernel
theorem dX12_behind_121 : decode cX12_behind 121 = .ok (.dup, 1) := by decide +kernel
theorem dX12_behind_122 : decode cX12_behind 122 = .ok (.getfield 421, 3) := by decide +kernel
theorem dX12_behind_125 : decode cX12_behind 125 = .ok (.iconst 1, 1) := by decide +kernel
theorem dX12_behind_126 : decode cX12_behind 126 = .ok (.isub, 1) := by decide +kernel
theorem dX12_behind_127 : decode cX12_behind 127 = .ok (.putfield 421, 3) := by decide +kernel
theorem dX12_behind_130 : decode cX12_behind 130 = .ok (.aload_n 0, 1) := by decide +kernel
theorem dX12_behind_131 : decode cX12_behind 131 = .ok (.dup, 1) := by decide +kernel
theorem dX12_behind_132 : decode cX12_behind 132 = .ok (.getfield 427, 3) := by decide +kernel
theorem dX12_behind_135 : decode cX12_behind 135 = .ok (.iconst 1, 1) := by decide +kernel
theorem dX12_behind_136 : decode cX12_behind 136 = .ok (.isub, 1) := by decide +kernel
theorem dX12_behind_137 : decode cX12_behind 137 = .ok (.putfield 427, 3) := by decide +kernel
theorem dX12_behind_140 : decode cX12_behind 140 = .ok (.aload_n 0, 1) := by decide +kernel
theorem dX12_behind_141 : decode cX12_behind 141 = .ok (.invokevirtual 174, 3) := by decide +kernel
theorem dX12_behind_144 : decode cX12_behind 144 = .ok (.iconst 1, 1) := by decide +kernel
theorem dX12_behind_145 : decode cX12_behind 145 = .ok (.ireturn, 1) := by decide +kernel
theorem dX12_bid_0 : decode cX12_bid 0 = .ok (.aload_n 0, 1) := by decide +kernel
theorem dX12_bid_1 : decode cX12_bid 1 = .ok (.iconst 0, 1) := by decide +kernel
theorem dX12_bid_2 : decode cX12_bid 2 = .ok (.putfield 1, 3) := by decide +kernel
theorem dX12_bid_5 : decode cX12_bid 5 = .ok (.aload_n 0, 1) := by decide +kernel
theorem dX12_bid_6 : decode cX12_bid 6 = .ok (.iload_n 1, 1) := by decide +kernel
theorem dX12_bid_7 : decode cX12_bid 7 = .ok (.invokevirtual 246, 3) := by decide +kernel
theorem dX12_bid_10 : decode cX12_bid 10 = .ok (.ifCond .ne 5, 3) := by decide +kernel
theorem dX12_bid_13 : decode cX12_bid 13 = .ok (.iconst (-1), 1) := by decide +kernel
theorem dX12_bid_14 : decode cX12_bid 14 = .ok (.ireturn, 1) := by decide +kernel
theorem dX12_bid_15 : decode cX12_bid 15 = .ok (.aload_n 0, 1) := by decide +kernel
theorem dX12_bid_16 : decode cX12_bid 16 = .ok (.iload_n 1, 1) := by decide +kernel
theorem dX12_bid_17 : decode cX12_bid 17 = .ok (.invokevirtual 359, 3) := by decide +kernel
theorem dX12_bid_20 : decode cX12_bid 20 = .ok (.aload_n 0, 1) := by decide +kernel
theorem dX12_bid_21 : decode cX12_bid 21 = .ok (.getfield 353, 3) := by decide +kernel
theorem dX12_bid_24 : decode cX12_bid 24 = .ok (.ifCond .ge 7, 3) := by decide +kernel
theorem dX12_bid_27 : decode cX12_bid 27 = .ok (.iconst (-1), 1) := by decide +kernel
theorem dX12_bid_28 : decode cX12_bid 28 = .ok (.goto 7, 3) := by decide +kernel
theorem dX12_bid_31 : decode cX12_bid 31 = .ok (.aload_n 0, 1) := by decide +kernel
theorem dX12_bid_32 : decode cX12_bid 32 = .ok (.getfield 356, 3) := by decide +kernel
theorem dX12_bid_35 : decode cX12_bid 35 = .ok (.ireturn, 1) := by decide +kernel
theorem dX12_bidder_0 : decode cX12_bidder 0 = .ok (.aload_n 0, 1) := by decide +kernel
theorem dX12_bidder_1 : decode cX12_bidder 1 = .ok (.iconst 0, 1) := by decide +kernel
theorem dX12_bidder_2 : decode cX12_bidder 2 = .ok (.putfield 1, 3) := by decide +kernel
theorem dX12_bidder_5 : decode cX12_bidder 5 = .ok (.aload_n 0, 1) := by decide +kernel
theorem dX12_bidder_6 : decode cX12_bidder 6 = .ok (.iload_n 1, 1) := by decide +kernel
theorem dX12_bidder_7 : decode cX12_bidder 7 = .ok (.invokevirtual 246, 3) := by decide +kernel
theorem dX12_bidder_10 : decode cX12_bidder 10 = .ok (.ifCond .ne 5, 3) := by decide +kernel
theorem dX12_bidder_13 : decode cX12_bidder 13 = .ok (.iconst (-1), 1) := by decide +kernel
theorem dX12_bidder_14 : decode cX12_bidder 14 = .ok (.ireturn, 1) := by decide +kernel
theorem dX12_bidder_15 : decode cX12_bidder 15 = .ok (.aload_n 0, 1) := by decide +kernel
theorem dX12_bidder_16 : decode cX12_bidder 16 = .ok (.iload_n 1, 1) := by decide +kernel
theorem dX12_bidder_17 : decode cX12_bidder 17 = .ok (.invokevirtual 359, 3) := by decide +kernel
theorem dX12_bidder_20 : decode cX12_bidder 20 = .ok (.aload_n 0, 1) := by decide +kernel
theorem dX12_bidder_21 : decode cX12_bidder 21 = .ok (.getfield 353, 3) := by decide +kernel
theorem dX12_bidder_24 : decode cX12_bidder 24 = .ok (.ireturn, 1) := by decide +kernel
theorem dX12_bids_0 : decode cX12_bids 0 = .ok (.aload_n 0, 1) := by decide +kernel
theorem dX12_bids_1 : decode cX12_bids 1 = .ok (.iconst (-1), 1) := by decide +kernel
theorem dX12_bids_2 : decode cX12_bids 2 = .ok (.putfield 353, 3) := by decide +kernel
theorem dX12_bids_5 : decode cX12_bids 5 = .ok (.aload_n 0, 1) := by decide +kernel
theorem dX12_bids_6 : decode cX12_bids 6 = .ok (.iconst 0, 1) := by decide +kernel
theorem dX12_bids_7 : decode cX12_bids 7 = .ok (.putfield 356, 3) := by decide +kernel
theorem dX12_bids_10 : decode cX12_bids 10 = .ok (.iconst 0, 1) := by decide +kernel
theorem dX12_bids_11 : decode cX12_bids 11 = .ok (.istore_n 2, 1) := by decide +kernel
theorem dX12_bids_12 : decode cX12_bids 12 = .ok (.iconst 0, 1) := by decide +kernel
theorem dX12_bids_13 : decode cX12_bids 13 = .ok (.istore_n 3, 1) := by decide +kernel
theorem dX12_bids_14 : decode cX12_bids 14 = .ok (.iload_n 3, 1) := by decide +kernel
theorem dX12_bids_15 : decode cX12_bids 15 = .ok (.aload_n 0, 1) := by decide +kernel
theorem dX12_bids_16 : decode cX12_bids 16 = .ok (.getfield 33, 3) := by decide +kernel
theorem dX12_bids_19 : decode cX12_bids 19 = .ok (.sipush 151, 3) := by decide +kernel
theorem dX12_bids_22 : decode cX12_bids 22 = .ok (.iaload, 1) := by decide +kernel
theorem dX12_bids_23 : decode cX12_bids 23 = .ok (.if_icmp .ge 121, 3) := by decide +kernel
theorem dX12_bids_26 : decode cX12_bids 26 = .ok (.aload_n 0, 1) := by decide +kernel
theorem dX12_bids_27 : decode cX12_bids 27 = .ok (.getfield 33, 3) := by decide +kernel
theorem dX12_bids_30 : decode cX12_bids 30 = .ok (.sipush 152, 3) := by decide +kernel
theorem dX12_bids_33 : decode cX12_bids 33 = .ok (.iload_n 3, 1) := by decide +kernel
theorem dX12_bids_34 : decode cX12_bids 34 = .ok (.iadd, 1) := by decide +kernel
theorem dX12_bids_35 : decode cX12_bids 35 = .ok (.iaload, 1) := by decide +kernel
theorem dX12_bids_36 : decode cX12_bids 36 = .ok (.istore 4, 2) := by decide +kernel
theorem dX12_bids_38 : decode cX12_bids 38 = .ok (.aload_n 0, 1) := by decide +kernel
theorem dX12_bids_39 : decode cX12_bids 39 = .ok (.getfield 33, 3) := by decide +kernel
theorem dX12_bids_42 : decode cX12_bids 42 = .ok (.bipush 56, 2) := by decide +kernel
theorem dX12_bids_44 : decode cX12_bids 44 = .ok (.bipush 9, 2) := by decide +kernel
theorem dX12_bids_46 : decode cX12_bids 46 = .ok (.iload 4, 2) := by decide +kernel
theorem dX12_bids_48 : decode cX12_bids 48 = .ok (.imul, 1) := by decide +kernel
theorem dX12_bids_49 : decode cX12_bids 49 = .ok (.iadd, 1) := by decide +kernel
theorem dX12_bids_50 : decode cX12_bids 50 = .ok (.iload_n 1, 1) := by decide +kernel
theorem dX12_bids_51 : decode cX12_bids 51 = .ok (.iadd, 1) := by decide +kernel
theorem dX12_bids_52 : decode cX12_bids 52 = .ok (.iaload, 1) := by decide +kernel
theorem dX12_bids_53 : decode cX12_bids 53 = .ok (.istore 5, 2) := by decide +kernel
theorem dX12_bids_55 : decode cX12_bids 55 = .ok (.iload 5, 2) := by decide +kernel
theorem dX12_bids_57 : decode cX12_bids 57 = .ok (.ifCond .ne 6, 3) := by decide +kernel
theorem dX12_bids_60 : decode cX12_bids 60 = .ok (.goto 78, 3) := by decide +kernel
theorem dX12_bids_63 : decode cX12_bids 63 = .ok (.iload 5, 2) := by decide +kernel
theorem dX12_bids_65 : decode cX12_bids 65 = .ok (.aload_n 0, 1) := by decide +kernel
theorem dX12_bids_66 : decode cX12_bids 66 = .ok (.getfield 33, 3) := by decide +kernel
theorem dX12_bids_69 : decode cX12_bids 69 = .ok (.sipush 170, 3) := by decide +kernel
theorem dX12_bids_72 : decode cX12_bids 72 = .ok (.iload 4, 2) := by decide +kernel
theorem dX12_bids_74 : decode cX12_bids 74 = .ok (.iadd, 1) := by decide +kernel
theorem dX12_bids_75 : decode cX12_bids 75 = .ok (.iaload, 1) := by decide +kernel
theorem dX12_bids_76 : decode cX12_bids 76 = .ok (.invokestatic 350, 3) := by decide +kernel
theorem dX12_bids_79 : decode cX12_bids 79 = .ok (.istore 6, 2) := by decide +kernel
theorem dX12_bids_81 : decode cX12_bids 81 = .ok (.aload_n 0, 1) := by decide +kernel
theorem dX12_bids_82 : decode cX12_bids 82 = .ok (.getfield 353, 3) := by decide +kernel
theorem dX12_bids_85 : decode cX12_bids 85 = .ok (.ifCond .ge 15, 3) := by decide +kernel
theorem dX12_bids_88 : decode cX12_bids 88 = .ok (.aload_n 0, 1) := by decide +kernel
theorem dX12_bids_89 : decode cX12_bids 89 = .ok (.iload 4, 2) := by decide +kernel
theorem dX12_bids_91 : decode cX12_bids 91 = .ok (.putfield 353, 3) := by decide +kernel
theorem dX12_bids_94 : decode cX12_bids 94 = .ok (.iload 6, 2) := by decide +kernel
theorem dX12_bids_96 : decode cX12_bids 96 = .ok (.istore_n 2, 1) := by decide +kernel
theorem dX12_bids_97 : decode cX12_bids 97 = .ok (.goto 41, 3) := by decide +kernel
theorem dX12_bids_100 : decode cX12_bids 100 = .ok (.iload 6, 2) := by decide +kernel
theorem dX12_bids_102 : decode cX12_bids 102 = .ok (.iload_n 2, 1) := by decide +kernel
theorem dX12_bids_103 : decode cX12_bids 103 = .ok (.if_icmp .le 20, 3) := by decide +kernel
theorem dX12_bids_106 : decode cX12_bids 106 = .ok (.aload_n 0, 1) := by decide +kernel
theorem dX12_bids_107 : decode cX12_bids 107 = .ok (.iload_n 2, 1) := by decide +kernel
theorem dX12_bids_108 : decode cX12_bids 108 = .ok (.putfield 356, 3) := by decide +kernel
theorem dX12_bids_111 : decode cX12_bids 111 = .ok (.iload 6, 2) := by decide +kernel
theorem dX12_bids_113 : decode cX12_bids 113 = .ok (.istore_n 2, 1) := by decide +kernel
theorem dX12_bids_114 : decode cX12_bids 114 = .ok (.aload_n 0, 1) := by decide +kernel
theorem dX12_bids_115 : decode cX12_bids 115 = .ok (.iload 4, 2) := by decide +kernel
theorem dX12_bids_117 : decode cX12_bids 117 = .ok (.putfield 353, 3) := by decide +kernel
theorem dX12_bids_120 : decode cX12_bids 120 = .ok (.goto 18, 3) := by decide +kernel
theorem dX12_bids_123 : decode cX12_bids 123 = .ok (.iload 6, 2) := by decide +kernel
theorem dX12_bids_125 : decode cX12_bids 125 = .ok (.aload_n 0, 1) := by decide +kernel
theorem dX12_bids_126 : decode cX12_bids 126 = .ok (.getfield 356, 3) := by decide +kernel
theorem dX12_bids_129 : decode cX12_bids 129 = .ok (.if_icmp .le 9, 3) := by decide +kernel
theorem dX12_bids_132 : decode cX12_bids 132 = .ok (.aload_n 0, 1) := by decide +kernel
theorem dX12_bids_133 : decode cX12_bids 133 = .ok (.iload 6, 2) := by decide +kernel
theorem dX12_bids_135 : decode cX12_bids 135 = .ok (.putfield 356, 3) := by decide +kernel
theorem dX12_bids_138 : decode cX12_bids 138 = .ok (.iinc 3 1, 3) := by decide +kernel
theorem dX12_bids_141 : decode cX12_bids 141 = .ok (.goto (-127), 3) := by decide +kernel
theorem dX12_bids_144 : decode cX12_bids 144 = .ok (.return_, 1) := by decide +kernel
theorem dX12_bitOf_0 : decode cX12_bitOf 0 = .ok (.iload_n 0, 1) := by decide +kernel
theorem dX12_bitOf_1 : decode cX12_bitOf 1 = .ok (.iload_n 1, 1) := by decide +kernel
theorem dX12_bitOf_2 : decode cX12_bitOf 2 = .ok (.ishr, 1) := by decide +kernel
theorem dX12_bitOf_3 : decode cX12_bitOf 3 = .ok (.iconst 1, 1) := by decide +kernel
theorem dX12_bitOf_4 : decode cX12_bitOf 4 = .ok (.iand, 1) := by decide +kernel
theorem dX12_bitOf_5 : decode cX12_bitOf 5 = .ok (.iconst 1, 1) := by decide +kernel
theorem dX12_bitOf_6 : decode cX12_bitOf 6 = .ok (.if_icmp .ne 7, 3) := by decide +kernel
theorem dX12_bitOf_9 : decode cX12_bitOf 9 = .ok (.iconst 1, 1) := by decide +kernel
theorem dX12_bitOf_10 : decode cX12_bitOf 10 = .ok (.goto 4, 3) := by decide +kernel
theorem dX12_bitOf_13 : decode cX12_bitOf 13 = .ok (.iconst 0, 1) := by decide +kernel
theorem dX12_bitOf_14 : decode cX12_bitOf 14 = .ok (.ireturn, 1) := by decide +kernel
theorem dX12_bits_0 : decode cX12_bits 0 = .ok (.iconst 0, 1) := by decide +kernel
theorem dX12_bits_1 : decode cX12_bits 1 = .ok (.istore_n 1, 1) := by decide +kernel
theorem dX12_bits_2 : decode cX12_bits 2 = .ok (.iload_n 0, 1) := by decide +kernel
theorem dX12_bits_3 : decode cX12_bits 3 = .ok (.istore_n 2, 1) := by decide +kernel
theorem dX12_bits_4 : decode cX12_bits 4 = .ok (.iload_n 2, 1) := by decide +kernel
theorem dX12_bits_5 : decode cX12_bits 5 = .ok (.ifCond .eq 15, 3) := by decide +kernel
theorem dX12_bits_8 : decode cX12_bits 8 = .ok (.iinc 1 1, 3) := by decide +kernel
theorem dX12_bits_11 : decode cX12_bits 11 = .ok (.iload_n 2, 1) := by decide +kernel
theorem dX12_bits_12 : decode cX12_bits 12 = .ok (.iload_n 2, 1) := by decide +kernel
theorem dX12_bits_13 : decode cX12_bits 13 = .ok (.iconst 1, 1) := by decide +kernel
theorem dX12_bits_14 : decode cX12_bits 14 = .ok (.isub, 1) := by decide +kernel
theorem dX12_bits_15 : decode cX12_bits 15 = .ok (.iand, 1) := by decide +kernel
theorem dX12_bits_16 : decode cX12_bits 16 = .ok (.istore_n 2, 1) := by decide +kernel
theorem dX12_bits_17 : decode cX12_bits 17 = .ok (.goto (-13), 3) := by decide +kernel
theorem dX12_bits_20 : decode cX12_bits 20 = .ok (.iload_n 1, 1) := by decide +kernel
theorem dX12_bits_21 : decode cX12_bits 21 = .ok (.ireturn, 1) := by decide +kernel
theorem dX12_called_0 : decode cX12_called 0 = .ok (.aload_n 0, 1) := by decide +kernel
theorem dX12_called_1 : decode cX12_called 1 = .ok (.iconst 0, 1) := by decide +kernel
theorem dX12_called_2 : decode cX12_called 2 = .ok (.putfield 1, 3) := by decide +kernel
theorem dX12_called_5 : decode cX12_called 5 = .ok (.aload_n 0, 1) := by decide +kernel
theorem dX12_called_6 : decode cX12_called 6 = .ok (.iload_n 1, 1) := by decide +kernel
theorem dX12_called_7 : decode cX12_called 7 = .ok (.invokevirtual 236, 3) := by decide +kernel
theorem dX12_called_10 : decode cX12_called 10 = .ok (.ifCond .eq 20, 3) := by decide +kernel
theorem dX12_called_13 : decode cX12_called 13 = .ok (.aload_n 0, 1) := by decide +kernel
theorem dX12_called_14 : decode cX12_called 14 = .ok (.iload_n 2, 1) := by decide +kernel
theorem dX12_called_15 : decode cX12_called 15 = .ok (.invokevirtual 329, 3) := by decide +kernel
theorem dX12_called_18 : decode cX12_called 18 = .ok (.ifCond .eq 12, 3) := by decide +kernel
theorem dX12_called_21 : decode cX12_called 21 = .ok (.aload_n 0, 1) := by decide +kernel
theorem dX12_called_22 : decode cX12_called 22 = .ok (.iload_n 1, 1) := by decide +kernel
theorem dX12_called_23 : decode cX12_called 23 = .ok (.iload_n 2, 1) := by decide +kernel
theorem dX12_called_24 : decode cX12_called 24 = .ok (.invokevirtual 332, 3) := by decide +kernel
theorem dX12_called_27 : decode cX12_called 27 = .ok (.goto 5, 3) := by decide +kernel
theorem dX12_called_30 : decode cX12_called 30 = .ok (.bipush (-2), 2) := by decide +kernel
theorem dX12_called_32 : decode cX12_called 32 = .ok (.ireturn, 1) := by decide +kernel
theorem dX12_calledSet_0 : decode cX12_calledSet 0 = .ok (.iconst 0, 1) := by decide +kernel
theorem dX12_calledSet_1 : decode cX12_calledSet 1 = .ok (.istore_n 1, 1) := by decide +kernel
theorem dX12_calledSet_2 : decode cX12_calledSet 2 = .ok (.iconst 0, 1) := by decide +kernel
theorem dX12_calledSet_3 : decode cX12_calledSet 3 = .ok (.istore_n 2, 1) := by decide +kernel
theorem dX12_calledSet_4 : decode cX12_calledSet 4 = .ok (.iload_n 2, 1) := by decide +kernel
theorem dX12_calledSet_5 : decode cX12_calledSet 5 = .ok (.aload_n 0, 1) := by decide +kernel
theorem dX12_calledSet_6 : decode cX12_calledSet 6 = .ok (.getfield 33, 3) := by decide +kernel
theorem dX12_calledSet_9 : decode cX12_calledSet 9 = .ok (.iconst 1, 1) := by decide +kernel
theorem dX12_calledSet_10 : decode cX12_calledSet 10 = .ok (.iaload, 1) := by decide +kernel
theorem dX12_calledSet_11 : decode cX12_calledSet 11 = .ok (.if_icmp .ge 32, 3) := by decide +kernel
theorem dX12_calledSet_14 : decode cX12_calledSet 14 = .ok (.iload_n 1, 1) := by decide +kernel
theorem dX12_calledSet_15 : decode cX12_calledSet 15 = .ok (.aload_n 0, 1) := by decide +kernel
theorem dX12_calledSet_16 : decode cX12_calledSet 16 = .ok (.getfield 33, 3) := by decide +kernel
theorem dX12_calledSet_19 : decode cX12_calledSet 19 = .ok (.sipush 161, 3) := by decide +kernel
theorem dX12_calledSet_22 : decode cX12_calledSet 22 = .ok (.iload_n 2, 1) := by decide +kernel
theorem dX12_calledSet_23 : decode cX12_calledSet 23 = .ok (.iadd, 1) := by decide +kernel
theorem dX12_calledSet_24 : decode cX12_calledSet 24 = .ok (.iaload, 1) := by decide +kernel
theorem dX12_calledSet_25 : decode cX12_calledSet 25 = .ok (.ifCond .le 9, 3) := by decide +kernel
theorem dX12_calledSet_28 : decode cX12_calledSet 28 = .ok (.iconst 1, 1) := by decide +kernel
theorem dX12_calledSet_29 : decode cX12_calledSet 29 = .ok (.iload_n 2, 1) := by decide +kernel
theorem dX12_calledSet_30 : decode cX12_calledSet 30 = .ok (.ishl, 1) := by decide +kernel
theorem dX12_calledSet_31 : decode cX12_calledSet 31 = .ok (.goto 4, 3) := by decide +kernel
theorem dX12_calledSet_34 : decode cX12_calledSet 34 = .ok (.iconst 0, 1) := by decide +kernel
theorem dX12_calledSet_35 : decode cX12_calledSet 35 = .ok (.ior, 1) := by decide +kernel
theorem dX12_calledSet_36 : decode cX12_calledSet 36 = .ok (.istore_n 1, 1) := by decide +kernel
theorem dX12_calledSet_37 : decode cX12_calledSet 37 = .ok (.iinc 2 1, 3) := by decide +kernel
theorem dX12_calledSet_40 : decode cX12_calledSet 40 = .ok (.goto (-36), 3) := by decide +kernel
theorem dX12_calledSet_43 : decode cX12_calledSet 43 = .ok (.iload_n 1, 1) := by decide +kernel
theorem dX12_calledSet_44 : decode cX12_calledSet 44 = .ok (.ireturn, 1) := by decide +kernel
theorem dX12_canBe_0 : decode cX12_canBe 0 = .ok (.iconst 0, 1) := by decide +kernel
theorem dX12_canBe_1 : decode cX12_canBe 1 = .ok (.istore_n 1, 1) := by decide +kernel
theorem dX12_canBe_2 : decode cX12_canBe 2 = .ok (.iload_n 1, 1) := by decide +kernel
theorem dX12_canBe_3 : decode cX12_canBe 3 = .ok (.aload_n 0, 1) := by decide +kernel
theorem dX12_canBe_4 : decode cX12_canBe 4 = .ok (.getfield 33, 3) := by decide +kernel
theorem dX12_canBe_7 : decode cX12_canBe 7 = .ok (.iconst 1, 1) := by decide +kernel
theorem dX12_canBe_8 : decode cX12_canBe 8 = .ok (.iaload, 1) := by decide +kernel
theorem dX12_canBe_9 : decode cX12_canBe 9 = .ok (.if_icmp .ge 87, 3) := by decide +kernel
theorem dX12_canBe_12 : decode cX12_canBe 12 = .ok (.aload_n 0, 1) := by decide +kernel
theorem dX12_canBe_13 : decode cX12_canBe 13 = .ok (.iload_n 1, 1) := by decide +kernel
theorem dX12_canBe_14 : decode cX12_canBe 14 = .ok (.invokevirtual 338, 3) := by decide +kernel
theorem dX12_canBe_17 : decode cX12_canBe 17 = .ok (.ifCond .ne 6, 3) := by decide +kernel
theorem dX12_canBe_20 : decode cX12_canBe 20 = .ok (.goto 70, 3) := by decide +kernel
theorem dX12_canBe_23 : decode cX12_canBe 23 = .ok (.aload_n 0, 1) := by decide +kernel
theorem dX12_canBe_24 : decode cX12_canBe 24 = .ok (.getfield 33, 3) := by decide +kernel
theorem dX12_canBe_27 : decode cX12_canBe 27 = .ok (.sipush 161, 3) := by decide +kernel
theorem dX12_canBe_30 : decode cX12_canBe 30 = .ok (.iload_n 1, 1) := by decide +kernel
theorem dX12_canBe_31 : decode cX12_canBe 31 = .ok (.iadd, 1) := by decide +kernel
theorem dX12_canBe_32 : decode cX12_canBe 32 = .ok (.iaload, 1) := by decide +kernel
theorem dX12_canBe_33 : decode cX12_canBe 33 = .ok (.ifCond .eq 11, 3) := by decide +kernel
theorem dX12_canBe_36 : decode cX12_canBe 36 = .ok (.aload_n 0, 1) := by decide +kernel
theorem dX12_canBe_37 : decode cX12_canBe 37 = .ok (.iload_n 1, 1) := by decide +kernel
theorem dX12_canBe_38 : decode cX12_canBe 38 = .ok (.invokevirtual 341, 3) := by decide +kernel
theorem dX12_canBe_41 : decode cX12_canBe 41 = .ok (.ifCond .ge 5, 3) := by decide +kernel
theorem dX12_canBe_44 : decode cX12_canBe 44 = .ok (.iconst 0, 1) := by decide +kernel
theorem dX12_canBe_45 : decode cX12_canBe 45 = .ok (.ireturn, 1) := by decide +kernel
theorem dX12_canBe_46 : decode cX12_canBe 46 = .ok (.iconst 0, 1) := by decide +kernel
theorem dX12_canBe_47 : decode cX12_canBe 47 = .ok (.istore_n 2, 1) := by decide +kernel
theorem dX12_canBe_48 : decode cX12_canBe 48 = .ok (.iload_n 2, 1) := by decide +kernel
theorem dX12_canBe_49 : decode cX12_canBe 49 = .ok (.iload_n 1, 1) := by decide +kernel
theorem dX12_canBe_50 : decode cX12_canBe 50 = .ok (.if_icmp .ge 40, 3) := by decide +kernel
theorem dX12_canBe_53 : decode cX12_canBe 53 = .ok (.aload_n 0, 1) := by decide +kernel
theorem dX12_canBe_54 : decode cX12_canBe 54 = .ok (.iload_n 2, 1) := by decide +kernel
theorem dX12_canBe_55 : decode cX12_canBe 55 = .ok (.invokevirtual 338, 3) := by decide +kernel
theorem dX12_canBe_58 : decode cX12_canBe 58 = .ok (.ifCond .eq 26, 3) := by decide +kernel
theorem dX12_canBe_61 : decode cX12_canBe 61 = .ok (.aload_n 0, 1) := by decide +kernel
theorem dX12_canBe_62 : decode cX12_canBe 62 = .ok (.getfield 33, 3) := by decide +kernel
theorem dX12_canBe_65 : decode cX12_canBe 65 = .ok (.bipush 47, 2) := by decide +kernel
theorem dX12_canBe_67 : decode cX12_canBe 67 = .ok (.iload_n 2, 1) := by decide +kernel
theorem dX12_canBe_68 : decode cX12_canBe 68 = .ok (.iadd, 1) := by decide +kernel
theorem dX12_canBe_69 : decode cX12_canBe 69 = .ok (.iaload, 1) := by decide +kernel
theorem dX12_canBe_70 : decode cX12_canBe 70 = .ok (.aload_n 0, 1) := by decide +kernel
theorem dX12_canBe_71 : decode cX12_canBe 71 = .ok (.getfield 33, 3) := by decide +kernel
theorem dX12_canBe_74 : decode cX12_canBe 74 = .ok (.bipush 47, 2) := by decide +kernel
theorem dX12_canBe_76 : decode cX12_canBe 76 = .ok (.iload_n 1, 1) := by decide +kernel
theorem dX12_canBe_77 : decode cX12_canBe 77 = .ok (.iadd, 1) := by decide +kernel
theorem dX12_canBe_78 : decode cX12_canBe 78 = .ok (.iaload, 1) := by decide +kernel
theorem dX12_canBe_79 : decode cX12_canBe 79 = .ok (.if_icmp .ne 5, 3) := by decide +kernel
theorem dX12_canBe_82 : decode cX12_canBe 82 = .ok (.iconst 0, 1) := by decide +kernel
theorem dX12_canBe_83 : decode cX12_canBe 83 = .ok (.ireturn, 1) := by decide +kernel
theorem dX12_canBe_84 : decode cX12_canBe 84 = .ok (.iinc 2 1, 3) := by decide +kernel
theorem dX12_canBe_87 : decode cX12_canBe 87 = .ok (.goto (-39), 3) := by decide +kernel
theorem dX12_canBe_90 : decode cX12_canBe 90 = .ok (.iinc 1 1, 3) := by decide +kernel
theorem dX12_canBe_93 : decode cX12_canBe 93 = .ok (.goto (-91), 3) := by decide +kernel
theorem dX12_canBe_96 : decode cX12_canBe 96 = .ok (.iconst 1, 1) := by decide +kernel
theorem dX12_canBe_97 : decode cX12_canBe 97 = .ok (.ireturn, 1) := by decide +kernel
theorem dX12_changes_0 : decode cX12_changes 0 = .ok (.aload_n 0, 1) := by decide +kernel
theorem dX12_changes_1 : decode cX12_changes 1 = .ok (.getfield 33, 3) := by decide +kernel
theorem dX12_changes_4 : decode cX12_changes 4 = .ok (.sipush 149, 3) := by decide +kernel
theorem dX12_changes_7 : decode cX12_changes 7 = .ok (.dup2, 1) := by decide +kernel
theorem dX12_changes_8 : decode cX12_changes 8 = .ok (.iaload, 1) := by decide +kernel
theorem dX12_changes_9 : decode cX12_changes 9 = .ok (.iconst 1, 1) := by decide +kernel
theorem dX12_changes_10 : decode cX12_changes 10 = .ok (.iload_n 1, 1) := by decide +kernel
theorem dX12_changes_11 : decode cX12_changes 11 = .ok (.ishl, 1) := by decide +kernel
