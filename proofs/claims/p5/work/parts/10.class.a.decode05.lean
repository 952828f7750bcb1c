theorem dX11_soulsInLedger_77 : decode cX11_soulsInLedger 77 = .ok (.iinc 5 1, 3) := by decide +kernel
theorem dX11_soulsInLedger_80 : decode cX11_soulsInLedger 80 = .ok (.goto (-59), 3) := by decide +kernel
theorem dX11_soulsInLedger_83 : decode cX11_soulsInLedger 83 = .ok (.iload 4, 2) := by decide +kernel
theorem dX11_soulsInLedger_85 : decode cX11_soulsInLedger 85 = .ok (.ifCond .eq 9, 3) := by decide +kernel
theorem dX11_soulsInLedger_88 : decode cX11_soulsInLedger 88 = .ok (.iload_n 2, 1) := by decide +kernel
theorem dX11_soulsInLedger_89 : decode cX11_soulsInLedger 89 = .ok (.iconst 1, 1) := by decide +kernel
theorem dX11_soulsInLedger_90 : decode cX11_soulsInLedger 90 = .ok (.iload_n 3, 1) := by decide +kernel
theorem dX11_soulsInLedger_91 : decode cX11_soulsInLedger 91 = .ok (.ishl, 1) := by decide +kernel
theorem dX11_soulsInLedger_92 : decode cX11_soulsInLedger 92 = .ok (.ior, 1) := by decide +kernel
theorem dX11_soulsInLedger_93 : decode cX11_soulsInLedger 93 = .ok (.istore_n 2, 1) := by decide +kernel
theorem dX11_soulsInLedger_94 : decode cX11_soulsInLedger 94 = .ok (.iinc 3 1, 3) := by decide +kernel
theorem dX11_soulsInLedger_97 : decode cX11_soulsInLedger 97 = .ok (.goto (-93), 3) := by decide +kernel
theorem dX11_soulsInLedger_100 : decode cX11_soulsInLedger 100 = .ok (.iload_n 2, 1) := by decide +kernel
theorem dX11_soulsInLedger_101 : decode cX11_soulsInLedger 101 = .ok (.ireturn, 1) := by decide +kernel
theorem dX11_sum_0 : decode cX11_sum 0 = .ok (.iconst 0, 1) := by decide +kernel
theorem dX11_sum_1 : decode cX11_sum 1 = .ok (.istore_n 2, 1) := by decide +kernel
theorem dX11_sum_2 : decode cX11_sum 2 = .ok (.iconst 0, 1) := by decide +kernel
theorem dX11_sum_3 : decode cX11_sum 3 = .ok (.istore_n 3, 1) := by decide +kernel
theorem dX11_sum_4 : decode cX11_sum 4 = .ok (.iload_n 3, 1) := by decide +kernel
theorem dX11_sum_5 : decode cX11_sum 5 = .ok (.iload_n 1, 1) := by decide +kernel
theorem dX11_sum_6 : decode cX11_sum 6 = .ok (.if_icmp .ge 21, 3) := by decide +kernel
theorem dX11_sum_9 : decode cX11_sum 9 = .ok (.iload_n 3, 1) := by decide +kernel
theorem dX11_sum_10 : decode cX11_sum 10 = .ok (.aload_n 0, 1) := by decide +kernel
theorem dX11_sum_11 : decode cX11_sum 11 = .ok (.arraylength, 1) := by decide +kernel
theorem dX11_sum_12 : decode cX11_sum 12 = .ok (.if_icmp .ge 15, 3) := by decide +kernel
theorem dX11_sum_15 : decode cX11_sum 15 = .ok (.iload_n 2, 1) := by decide +kernel
theorem dX11_sum_16 : decode cX11_sum 16 = .ok (.aload_n 0, 1) := by decide +kernel
theorem dX11_sum_17 : decode cX11_sum 17 = .ok (.iload_n 3, 1) := by decide +kernel
theorem dX11_sum_18 : decode cX11_sum 18 = .ok (.iaload, 1) := by decide +kernel
theorem dX11_sum_19 : decode cX11_sum 19 = .ok (.iadd, 1) := by decide +kernel
theorem dX11_sum_20 : decode cX11_sum 20 = .ok (.istore_n 2, 1) := by decide +kernel
theorem dX11_sum_21 : decode cX11_sum 21 = .ok (.iinc 3 1, 3) := by decide +kernel
theorem dX11_sum_24 : decode cX11_sum 24 = .ok (.goto (-20), 3) := by decide +kernel
theorem dX11_sum_27 : decode cX11_sum 27 = .ok (.iload_n 2, 1) := by decide +kernel
theorem dX11_sum_28 : decode cX11_sum 28 = .ok (.ireturn, 1) := by decide +kernel
theorem dX11_swap_0 : decode cX11_swap 0 = .ok (.aload_n 0, 1) := by decide +kernel
theorem dX11_swap_1 : decode cX11_swap 1 = .ok (.iload_n 1, 1) := by decide +kernel
theorem dX11_swap_2 : decode cX11_swap 2 = .ok (.iload_n 2, 1) := by decide +kernel
theorem dX11_swap_3 : decode cX11_swap 3 = .ok (.invokevirtual 233, 3) := by decide +kernel
theorem dX11_swap_6 : decode cX11_swap 6 = .ok (.ifCond .eq 13, 3) := by decide +kernel
theorem dX11_swap_9 : decode cX11_swap 9 = .ok (.aload_n 0, 1) := by decide +kernel
theorem dX11_swap_10 : decode cX11_swap 10 = .ok (.iconst 1, 1) := by decide +kernel
theorem dX11_swap_11 : decode cX11_swap 11 = .ok (.iload_n 1, 1) := by decide +kernel
theorem dX11_swap_12 : decode cX11_swap 12 = .ok (.iload_n 2, 1) := by decide +kernel
theorem dX11_swap_13 : decode cX11_swap 13 = .ok (.invokevirtual 229, 3) := by decide +kernel
theorem dX11_swap_16 : decode cX11_swap 16 = .ok (.goto 4, 3) := by decide +kernel
theorem dX11_swap_19 : decode cX11_swap 19 = .ok (.iconst (-1), 1) := by decide +kernel
theorem dX11_swap_20 : decode cX11_swap 20 = .ok (.ireturn, 1) := by decide +kernel
theorem dX11_swaps_0 : decode cX11_swaps 0 = .ok (.aload_n 0, 1) := by decide +kernel
theorem dX11_swaps_1 : decode cX11_swaps 1 = .ok (.getfield 76, 3) := by decide +kernel
theorem dX11_swaps_4 : decode cX11_swaps 4 = .ok (.invokevirtual 278, 3) := by decide +kernel
theorem dX11_swaps_7 : decode cX11_swaps 7 = .ok (.ireturn, 1) := by decide +kernel
theorem dX11_take_0 : decode cX11_take 0 = .ok (.aload_n 0, 1) := by decide +kernel
theorem dX11_take_1 : decode cX11_take 1 = .ok (.getfield 19, 3) := by decide +kernel
theorem dX11_take_4 : decode cX11_take 4 = .ok (.iload_n 1, 1) := by decide +kernel
theorem dX11_take_5 : decode cX11_take 5 = .ok (.invokevirtual 169, 3) := by decide +kernel
theorem dX11_take_8 : decode cX11_take 8 = .ok (.ifCond .eq 24, 3) := by decide +kernel
theorem dX11_take_11 : decode cX11_take 11 = .ok (.aload_n 0, 1) := by decide +kernel
theorem dX11_take_12 : decode cX11_take 12 = .ok (.getfield 19, 3) := by decide +kernel
theorem dX11_take_15 : decode cX11_take 15 = .ok (.iload_n 2, 1) := by decide +kernel
theorem dX11_take_16 : decode cX11_take 16 = .ok (.invokevirtual 143, 3) := by decide +kernel
theorem dX11_take_19 : decode cX11_take 19 = .ok (.ifCond .eq 13, 3) := by decide +kernel
theorem dX11_take_22 : decode cX11_take 22 = .ok (.aload_n 0, 1) := by decide +kernel
theorem dX11_take_23 : decode cX11_take 23 = .ok (.iconst 0, 1) := by decide +kernel
theorem dX11_take_24 : decode cX11_take 24 = .ok (.iload_n 1, 1) := by decide +kernel
theorem dX11_take_25 : decode cX11_take 25 = .ok (.iload_n 2, 1) := by decide +kernel
theorem dX11_take_26 : decode cX11_take 26 = .ok (.invokevirtual 229, 3) := by decide +kernel
theorem dX11_take_29 : decode cX11_take 29 = .ok (.goto 4, 3) := by decide +kernel
theorem dX11_take_32 : decode cX11_take 32 = .ok (.iconst (-1), 1) := by decide +kernel
theorem dX11_take_33 : decode cX11_take 33 = .ok (.ireturn, 1) := by decide +kernel
theorem dX11_town_0 : decode cX11_town 0 = .ok (.aload_n 0, 1) := by decide +kernel
theorem dX11_town_1 : decode cX11_town 1 = .ok (.getfield 31, 3) := by decide +kernel
theorem dX11_town_4 : decode cX11_town 4 = .ok (.invokevirtual 115, 3) := by decide +kernel
theorem dX11_town_7 : decode cX11_town 7 = .ok (.istore_n 1, 1) := by decide +kernel
theorem dX11_town_8 : decode cX11_town 8 = .ok (.aload_n 0, 1) := by decide +kernel
theorem dX11_town_9 : decode cX11_town 9 = .ok (.getfield 10, 3) := by decide +kernel
theorem dX11_town_12 : decode cX11_town 12 = .ok (.iconst 0, 1) := by decide +kernel
theorem dX11_town_13 : decode cX11_town 13 = .ok (.putfield 111, 3) := by decide +kernel
theorem dX11_town_16 : decode cX11_town 16 = .ok (.aload_n 0, 1) := by decide +kernel
theorem dX11_town_17 : decode cX11_town 17 = .ok (.aload_n 0, 1) := by decide +kernel
theorem dX11_town_18 : decode cX11_town 18 = .ok (.getfield 10, 3) := by decide +kernel
theorem dX11_town_21 : decode cX11_town 21 = .ok (.getfield 119, 3) := by decide +kernel
theorem dX11_town_24 : decode cX11_town 24 = .ok (.putfield 122, 3) := by decide +kernel
theorem dX11_town_27 : decode cX11_town 27 = .ok (.iload_n 1, 1) := by decide +kernel
theorem dX11_town_28 : decode cX11_town 28 = .ok (.ifCond .ne 13, 3) := by decide +kernel
theorem dX11_town_31 : decode cX11_town 31 = .ok (.iconst (-1), 1) := by decide +kernel
theorem dX11_town_32 : decode cX11_town 32 = .ok (.aload_n 0, 1) := by decide +kernel
theorem dX11_town_33 : decode cX11_town 33 = .ok (.getfield 10, 3) := by decide +kernel
theorem dX11_town_36 : decode cX11_town 36 = .ok (.getfield 125, 3) := by decide +kernel
theorem dX11_town_39 : decode cX11_town 39 = .ok (.isub, 1) := by decide +kernel
theorem dX11_town_40 : decode cX11_town 40 = .ok (.ireturn, 1) := by decide +kernel
theorem dX11_town_41 : decode cX11_town 41 = .ok (.aload_n 0, 1) := by decide +kernel
theorem dX11_town_42 : decode cX11_town 42 = .ok (.getfield 19, 3) := by decide +kernel
theorem dX11_town_45 : decode cX11_town 45 = .ok (.aload_n 0, 1) := by decide +kernel
theorem dX11_town_46 : decode cX11_town 46 = .ok (.getfield 23, 3) := by decide +kernel
theorem dX11_town_49 : decode cX11_town 49 = .ok (.invokevirtual 128, 3) := by decide +kernel
theorem dX11_town_52 : decode cX11_town 52 = .ok (.aload_n 0, 1) := by decide +kernel
theorem dX11_town_53 : decode cX11_town 53 = .ok (.getfield 40, 3) := by decide +kernel
theorem dX11_town_56 : decode cX11_town 56 = .ok (.invokevirtual 131, 3) := by decide +kernel
theorem dX11_town_59 : decode cX11_town 59 = .ok (.aload_n 0, 1) := by decide +kernel
theorem dX11_town_60 : decode cX11_town 60 = .ok (.getfield 50, 3) := by decide +kernel
theorem dX11_town_63 : decode cX11_town 63 = .ok (.invokevirtual 134, 3) := by decide +kernel
theorem dX11_town_66 : decode cX11_town 66 = .ok (.aload_n 0, 1) := by decide +kernel
theorem dX11_town_67 : decode cX11_town 67 = .ok (.getfield 64, 3) := by decide +kernel
theorem dX11_town_70 : decode cX11_town 70 = .ok (.iconst 0, 1) := by decide +kernel
theorem dX11_town_71 : decode cX11_town 71 = .ok (.putfield 137, 3) := by decide +kernel
theorem dX11_town_74 : decode cX11_town 74 = .ok (.aload_n 0, 1) := by decide +kernel
theorem dX11_town_75 : decode cX11_town 75 = .ok (.getfield 31, 3) := by decide +kernel
theorem dX11_town_78 : decode cX11_town 78 = .ok (.getfield 140, 3) := by decide +kernel
theorem dX11_town_81 : decode cX11_town 81 = .ok (.ireturn, 1) := by decide +kernel
theorem dX11_undo_0 : decode cX11_undo 0 = .ok (.aload_n 0, 1) := by decide +kernel
theorem dX11_undo_1 : decode cX11_undo 1 = .ok (.getfield 50, 3) := by decide +kernel
theorem dX11_undo_4 : decode cX11_undo 4 = .ok (.aload_n 0, 1) := by decide +kernel
theorem dX11_undo_5 : decode cX11_undo 5 = .ok (.getfield 40, 3) := by decide +kernel
theorem dX11_undo_8 : decode cX11_undo 8 = .ok (.invokevirtual 256, 3) := by decide +kernel
theorem dX11_undo_11 : decode cX11_undo 11 = .ok (.ifCond .eq 13, 3) := by decide +kernel
theorem dX11_undo_14 : decode cX11_undo 14 = .ok (.aload_n 0, 1) := by decide +kernel
theorem dX11_undo_15 : decode cX11_undo 15 = .ok (.getfield 50, 3) := by decide +kernel
theorem dX11_undo_18 : decode cX11_undo 18 = .ok (.getfield 260, 3) := by decide +kernel
theorem dX11_undo_21 : decode cX11_undo 21 = .ok (.goto 4, 3) := by decide +kernel
theorem dX11_undo_24 : decode cX11_undo 24 = .ok (.iconst (-1), 1) := by decide +kernel
theorem dX11_undo_25 : decode cX11_undo 25 = .ok (.ireturn, 1) := by decide +kernel
theorem dX11_votes_0 : decode cX11_votes 0 = .ok (.iload_n 1, 1) := by decide +kernel
theorem dX11_votes_1 : decode cX11_votes 1 = .ok (.ifCond .lt 16, 3) := by decide +kernel
theorem dX11_votes_4 : decode cX11_votes 4 = .ok (.iload_n 1, 1) := by decide +kernel
theorem dX11_votes_5 : decode cX11_votes 5 = .ok (.iconst 1, 1) := by decide +kernel
theorem dX11_votes_6 : decode cX11_votes 6 = .ok (.aload_n 0, 1) := by decide +kernel
theorem dX11_votes_7 : decode cX11_votes 7 = .ok (.getfield 19, 3) := by decide +kernel
theorem dX11_votes_10 : decode cX11_votes 10 = .ok (.getfield 216, 3) := by decide +kernel
theorem dX11_votes_13 : decode cX11_votes 13 = .ok (.ishl, 1) := by decide +kernel
theorem dX11_votes_14 : decode cX11_votes 14 = .ok (.if_icmp .lt 5, 3) := by decide +kernel
theorem dX11_votes_17 : decode cX11_votes 17 = .ok (.iconst (-1), 1) := by decide +kernel
theorem dX11_votes_18 : decode cX11_votes 18 = .ok (.ireturn, 1) := by decide +kernel
theorem dX11_votes_19 : decode cX11_votes 19 = .ok (.aload_n 0, 1) := by decide +kernel
theorem dX11_votes_20 : decode cX11_votes 20 = .ok (.getfield 40, 3) := by decide +kernel
theorem dX11_votes_23 : decode cX11_votes 23 = .ok (.iload_n 1, 1) := by decide +kernel
theorem dX11_votes_24 : decode cX11_votes 24 = .ok (.invokevirtual 299, 3) := by decide +kernel
theorem dX11_votes_27 : decode cX11_votes 27 = .ok (.ifCond .eq 7, 3) := by decide +kernel
theorem dX11_votes_30 : decode cX11_votes 30 = .ok (.iconst 1, 1) := by decide +kernel
theorem dX11_votes_31 : decode cX11_votes 31 = .ok (.goto 4, 3) := by decide +kernel
theorem dX11_votes_34 : decode cX11_votes 34 = .ok (.iconst 0, 1) := by decide +kernel
theorem dX11_votes_35 : decode cX11_votes 35 = .ok (.ireturn, 1) := by decide +kernel
theorem dX11_wishes_0 : decode cX11_wishes 0 = .ok (.aload_n 0, 1) := by decide +kernel
theorem dX11_wishes_1 : decode cX11_wishes 1 = .ok (.getfield 76, 3) := by decide +kernel
theorem dX11_wishes_4 : decode cX11_wishes 4 = .ok (.invokevirtual 275, 3) := by decide +kernel
theorem dX11_wishes_7 : decode cX11_wishes 7 = .ok (.ireturn, 1) := by decide +kernel
theorem dX11_worth_0 : decode cX11_worth 0 = .ok (.aload_n 0, 1) := by decide +kernel
theorem dX11_worth_1 : decode cX11_worth 1 = .ok (.getfield 19, 3) := by decide +kernel
theorem dX11_worth_4 : decode cX11_worth 4 = .ok (.iload_n 1, 1) := by decide +kernel
theorem dX11_worth_5 : decode cX11_worth 5 = .ok (.invokevirtual 169, 3) := by decide +kernel
theorem dX11_worth_8 : decode cX11_worth 8 = .ok (.ifCond .eq 26, 3) := by decide +kernel
theorem dX11_worth_11 : decode cX11_worth 11 = .ok (.aload_n 0, 1) := by decide +kernel
theorem dX11_worth_12 : decode cX11_worth 12 = .ok (.getfield 19, 3) := by decide +kernel
theorem dX11_worth_15 : decode cX11_worth 15 = .ok (.iload_n 2, 1) := by decide +kernel
theorem dX11_worth_16 : decode cX11_worth 16 = .ok (.invokevirtual 143, 3) := by decide +kernel
theorem dX11_worth_19 : decode cX11_worth 19 = .ok (.ifCond .eq 15, 3) := by decide +kernel
theorem dX11_worth_22 : decode cX11_worth 22 = .ok (.aload_n 0, 1) := by decide +kernel
theorem dX11_worth_23 : decode cX11_worth 23 = .ok (.getfield 19, 3) := by decide +kernel
theorem dX11_worth_26 : decode cX11_worth 26 = .ok (.iload_n 1, 1) := by decide +kernel
theorem dX11_worth_27 : decode cX11_worth 27 = .ok (.iload_n 2, 1) := by decide +kernel
theorem dX11_worth_28 : decode cX11_worth 28 = .ok (.invokevirtual 199, 3) := by decide +kernel
theorem dX11_worth_31 : decode cX11_worth 31 = .ok (.goto 4, 3) := by decide +kernel
theorem dX11_worth_34 : decode cX11_worth 34 = .ok (.iconst (-1), 1) := by decide +kernel
theorem dX11_worth_35 : decode cX11_worth 35 = .ok (.ireturn, 1) := by decide +kernel
theorem dX2_act_0 : decode cX2_act 0 = .ok (.iload_n 1, 1) := by decide +kernel
theorem dX2_act_1 : decode cX2_act 1 = .ok (.tableswitch 95 0 6 #[43, 52, 61, 95, 70, 78, 87], 43) := by decide +kernel
theorem dX2_act_44 : decode cX2_act 44 = .ok (.aload_n 0, 1) := by decide +kernel
theorem dX2_act_45 : decode cX2_act 45 = .ok (.iload_n 2, 1) := by decide +kernel
theorem dX2_act_46 : decode cX2_act 46 = .ok (.iload_n 3, 1) := by decide +kernel
theorem dX2_act_47 : decode cX2_act 47 = .ok (.invokevirtual 134, 3) := by decide +kernel
theorem dX2_act_50 : decode cX2_act 50 = .ok (.goto 62, 3) := by decide +kernel
theorem dX2_act_53 : decode cX2_act 53 = .ok (.aload_n 0, 1) := by decide +kernel
theorem dX2_act_54 : decode cX2_act 54 = .ok (.iload_n 2, 1) := by decide +kernel
theorem dX2_act_55 : decode cX2_act 55 = .ok (.iload_n 3, 1) := by decide +kernel
theorem dX2_act_56 : decode cX2_act 56 = .ok (.invokevirtual 137, 3) := by decide +kernel
theorem dX2_act_59 : decode cX2_act 59 = .ok (.goto 53, 3) := by decide +kernel
theorem dX2_act_62 : decode cX2_act 62 = .ok (.aload_n 0, 1) := by decide +kernel
theorem dX2_act_63 : decode cX2_act 63 = .ok (.iload_n 2, 1) := by decide +kernel
theorem dX2_act_64 : decode cX2_act 64 = .ok (.iload_n 3, 1) := by decide +kernel
theorem dX2_act_65 : decode cX2_act 65 = .ok (.invokevirtual 140, 3) := by decide +kernel
theorem dX2_act_68 : decode cX2_act 68 = .ok (.goto 44, 3) := by decide +kernel
theorem dX2_act_71 : decode cX2_act 71 = .ok (.aload_n 0, 1) := by decide +kernel
theorem dX2_act_72 : decode cX2_act 72 = .ok (.iload_n 2, 1) := by decide +kernel
theorem dX2_act_73 : decode cX2_act 73 = .ok (.invokevirtual 143, 3) := by decide +kernel
theorem dX2_act_76 : decode cX2_act 76 = .ok (.goto 36, 3) := by decide +kernel
theorem dX2_act_79 : decode cX2_act 79 = .ok (.aload_n 0, 1) := by decide +kernel
theorem dX2_act_80 : decode cX2_act 80 = .ok (.iload_n 2, 1) := by decide +kernel
theorem dX2_act_81 : decode cX2_act 81 = .ok (.iload_n 3, 1) := by decide +kernel
theorem dX2_act_82 : decode cX2_act 82 = .ok (.invokevirtual 146, 3) := by decide +kernel
theorem dX2_act_85 : decode cX2_act 85 = .ok (.goto 27, 3) := by decide +kernel
theorem dX2_act_88 : decode cX2_act 88 = .ok (.aload_n 0, 1) := by decide +kernel
theorem dX2_act_89 : decode cX2_act 89 = .ok (.iload_n 3, 1) := by decide +kernel
theorem dX2_act_90 : decode cX2_act 90 = .ok (.invokevirtual 149, 3) := by decide +kernel
theorem dX2_act_93 : decode cX2_act 93 = .ok (.goto 19, 3) := by decide +kernel
theorem dX2_act_96 : decode cX2_act 96 = .ok (.aload_n 0, 1) := by decide +kernel
theorem dX2_act_97 : decode cX2_act 97 = .ok (.iload_n 2, 1) := by decide +kernel
theorem dX2_act_98 : decode cX2_act 98 = .ok (.iload_n 1, 1) := by decide +kernel
theorem dX2_act_99 : decode cX2_act 99 = .ok (.bipush 7, 2) := by decide +kernel
theorem dX2_act_101 : decode cX2_act 101 = .ok (.if_icmp .ne 7, 3) := by decide +kernel
theorem dX2_act_104 : decode cX2_act 104 = .ok (.iconst 1, 1) := by decide +kernel
theorem dX2_act_105 : decode cX2_act 105 = .ok (.goto 4, 3) := by decide +kernel
theorem dX2_act_108 : decode cX2_act 108 = .ok (.iconst 0, 1) := by decide +kernel
theorem dX2_act_109 : decode cX2_act 109 = .ok (.invokevirtual 152, 3) := by decide +kernel
theorem dX2_act_112 : decode cX2_act 112 = .ok (.return_, 1) := by decide +kernel
theorem dX2_actByDraw_0 : decode cX2_actByDraw 0 = .ok (.aload_n 2, 1) := by decide +kernel
theorem dX2_actByDraw_1 : decode cX2_actByDraw 1 = .ok (.bipush 8, 2) := by decide +kernel
theorem dX2_actByDraw_3 : decode cX2_actByDraw 3 = .ok (.invokevirtual 177, 3) := by decide +kernel
theorem dX2_actByDraw_6 : decode cX2_actByDraw 6 = .ok (.tableswitch 89 0 3 #[30, 50, 70, 80], 30) := by decide +kernel
theorem dX2_actByDraw_36 : decode cX2_actByDraw 36 = .ok (.aload_n 0, 1) := by decide +kernel
theorem dX2_actByDraw_37 : decode cX2_actByDraw 37 = .ok (.iconst 1, 1) := by decide +kernel
theorem dX2_actByDraw_38 : decode cX2_actByDraw 38 = .ok (.iload_n 1, 1) := by decide +kernel
theorem dX2_actByDraw_39 : decode cX2_actByDraw 39 = .ok (.aload_n 2, 1) := by decide +kernel
theorem dX2_actByDraw_40 : decode cX2_actByDraw 40 = .ok (.aload_n 0, 1) := by decide +kernel
theorem dX2_actByDraw_41 : decode cX2_actByDraw 41 = .ok (.getfield 37, 3) := by decide +kernel
theorem dX2_actByDraw_44 : decode cX2_actByDraw 44 = .ok (.getfield 45, 3) := by decide +kernel
theorem dX2_actByDraw_47 : decode cX2_actByDraw 47 = .ok (.invokevirtual 177, 3) := by decide +kernel
theorem dX2_actByDraw_50 : decode cX2_actByDraw 50 = .ok (.invokevirtual 201, 3) := by decide +kernel
theorem dX2_actByDraw_53 : decode cX2_actByDraw 53 = .ok (.goto 42, 3) := by decide +kernel
theorem dX2_actByDraw_56 : decode cX2_actByDraw 56 = .ok (.aload_n 0, 1) := by decide +kernel
theorem dX2_actByDraw_57 : decode cX2_actByDraw 57 = .ok (.iconst 0, 1) := by decide +kernel
theorem dX2_actByDraw_58 : decode cX2_actByDraw 58 = .ok (.iload_n 1, 1) := by decide +kernel
theorem dX2_actByDraw_59 : decode cX2_actByDraw 59 = .ok (.aload_n 2, 1) := by decide +kernel
theorem dX2_actByDraw_60 : decode cX2_actByDraw 60 = .ok (.aload_n 0, 1) := by decide +kernel
theorem dX2_actByDraw_61 : decode cX2_actByDraw 61 = .ok (.getfield 37, 3) := by decide +kernel
theorem dX2_actByDraw_64 : decode cX2_actByDraw 64 = .ok (.getfield 65, 3) := by decide +kernel
theorem dX2_actByDraw_67 : decode cX2_actByDraw 67 = .ok (.invokevirtual 177, 3) := by decide +kernel
theorem dX2_actByDraw_70 : decode cX2_actByDraw 70 = .ok (.invokevirtual 201, 3) := by decide +kernel
theorem dX2_actByDraw_73 : decode cX2_actByDraw 73 = .ok (.goto 22, 3) := by decide +kernel
theorem dX2_actByDraw_76 : decode cX2_actByDraw 76 = .ok (.aload_n 0, 1) := by decide +kernel
theorem dX2_actByDraw_77 : decode cX2_actByDraw 77 = .ok (.iconst 4, 1) := by decide +kernel
theorem dX2_actByDraw_78 : decode cX2_actByDraw 78 = .ok (.iload_n 1, 1) := by decide +kernel
theorem dX2_actByDraw_79 : decode cX2_actByDraw 79 = .ok (.iconst 0, 1) := by decide +kernel
theorem dX2_actByDraw_80 : decode cX2_actByDraw 80 = .ok (.invokevirtual 201, 3) := by decide +kernel
theorem dX2_actByDraw_83 : decode cX2_actByDraw 83 = .ok (.goto 12, 3) := by decide +kernel
theorem dX2_actByDraw_86 : decode cX2_actByDraw 86 = .ok (.aload_n 0, 1) := by decide +kernel
theorem dX2_actByDraw_87 : decode cX2_actByDraw 87 = .ok (.iload_n 1, 1) := by decide +kernel
theorem dX2_actByDraw_88 : decode cX2_actByDraw 88 = .ok (.aload_n 2, 1) := by decide +kernel
theorem dX2_actByDraw_89 : decode cX2_actByDraw 89 = .ok (.invokevirtual 205, 3) := by decide +kernel
theorem dX2_actByDraw_92 : decode cX2_actByDraw 92 = .ok (.goto 3, 3) := by decide +kernel
theorem dX2_actByDraw_95 : decode cX2_actByDraw 95 = .ok (.return_, 1) := by decide +kernel
theorem dX2_actIfCan_0 : decode cX2_actIfCan 0 = .ok (.aload_n 0, 1) := by decide +kernel
theorem dX2_actIfCan_1 : decode cX2_actIfCan 1 = .ok (.iload_n 1, 1) := by decide +kernel
theorem dX2_actIfCan_2 : decode cX2_actIfCan 2 = .ok (.iload_n 2, 1) := by decide +kernel
theorem dX2_actIfCan_3 : decode cX2_actIfCan 3 = .ok (.iload_n 3, 1) := by decide +kernel
theorem dX2_actIfCan_4 : decode cX2_actIfCan 4 = .ok (.invokevirtual 208, 3) := by decide +kernel
theorem dX2_actIfCan_7 : decode cX2_actIfCan 7 = .ok (.ifCond .ne 10, 3) := by decide +kernel
theorem dX2_actIfCan_10 : decode cX2_actIfCan 10 = .ok (.aload_n 0, 1) := by decide +kernel
theorem dX2_actIfCan_11 : decode cX2_actIfCan 11 = .ok (.iload_n 1, 1) := by decide +kernel
theorem dX2_actIfCan_12 : decode cX2_actIfCan 12 = .ok (.iload_n 2, 1) := by decide +kernel
theorem dX2_actIfCan_13 : decode cX2_actIfCan 13 = .ok (.iload_n 3, 1) := by decide +kernel
theorem dX2_actIfCan_14 : decode cX2_actIfCan 14 = .ok (.invokevirtual 212, 3) := by decide +kernel
theorem dX2_actIfCan_17 : decode cX2_actIfCan 17 = .ok (.return_, 1) := by decide +kernel
theorem dX2_begin_0 : decode cX2_begin 0 = .ok (.aload_n 0, 1) := by decide +kernel
theorem dX2_begin_1 : decode cX2_begin 1 = .ok (.iconst 0, 1) := by decide +kernel
theorem dX2_begin_2 : decode cX2_begin 2 = .ok (.putfield 41, 3) := by decide +kernel
theorem dX2_begin_5 : decode cX2_begin 5 = .ok (.aload_n 0, 1) := by decide +kernel
theorem dX2_begin_6 : decode cX2_begin 6 = .ok (.iconst 1, 1) := by decide +kernel
theorem dX2_begin_7 : decode cX2_begin 7 = .ok (.aload_n 0, 1) := by decide +kernel
theorem dX2_begin_8 : decode cX2_begin 8 = .ok (.getfield 37, 3) := by decide +kernel
theorem dX2_begin_11 : decode cX2_begin 11 = .ok (.getfield 45, 3) := by decide +kernel
theorem dX2_begin_14 : decode cX2_begin 14 = .ok (.ishl, 1) := by decide +kernel
theorem dX2_begin_15 : decode cX2_begin 15 = .ok (.iconst 1, 1) := by decide +kernel
theorem dX2_begin_16 : decode cX2_begin 16 = .ok (.isub, 1) := by decide +kernel
theorem dX2_begin_17 : decode cX2_begin 17 = .ok (.putfield 50, 3) := by decide +kernel
theorem dX2_begin_20 : decode cX2_begin 20 = .ok (.aload_n 0, 1) := by decide +kernel
theorem dX2_begin_21 : decode cX2_begin 21 = .ok (.iconst 0, 1) := by decide +kernel
theorem dX2_begin_22 : decode cX2_begin 22 = .ok (.putfield 53, 3) := by decide +kernel
theorem dX2_begin_25 : decode cX2_begin 25 = .ok (.aload_n 0, 1) := by decide +kernel
theorem dX2_begin_26 : decode cX2_begin 26 = .ok (.iconst 0, 1) := by decide +kernel
theorem dX2_begin_27 : decode cX2_begin 27 = .ok (.putfield 56, 3) := by decide +kernel
theorem dX2_begin_30 : decode cX2_begin 30 = .ok (.aload_n 0, 1) := by decide +kernel
theorem dX2_begin_31 : decode cX2_begin 31 = .ok (.iconst 0, 1) := by decide +kernel
theorem dX2_begin_32 : decode cX2_begin 32 = .ok (.putfield 59, 3) := by decide +kernel
theorem dX2_begin_35 : decode cX2_begin 35 = .ok (.aload_n 0, 1) := by decide +kernel
theorem dX2_begin_36 : decode cX2_begin 36 = .ok (.iconst 0, 1) := by decide +kernel
theorem dX2_begin_37 : decode cX2_begin 37 = .ok (.putfield 62, 3) := by decide +kernel
theorem dX2_begin_40 : decode cX2_begin 40 = .ok (.iconst 0, 1) := by decide +kernel
theorem dX2_begin_41 : decode cX2_begin 41 = .ok (.istore_n 1, 1) := by decide +kernel
theorem dX2_begin_42 : decode cX2_begin 42 = .ok (.iload_n 1, 1) := by decide +kernel
theorem dX2_begin_43 : decode cX2_begin 43 = .ok (.aload_n 0, 1) := by decide +kernel
theorem dX2_begin_44 : decode cX2_begin 44 = .ok (.getfield 37, 3) := by decide +kernel
theorem dX2_begin_47 : decode cX2_begin 47 = .ok (.getfield 65, 3) := by decide +kernel
theorem dX2_begin_50 : decode cX2_begin 50 = .ok (.if_icmp .ge 42, 3) := by decide +kernel
theorem dX2_begin_53 : decode cX2_begin 53 = .ok (.aload_n 0, 1) := by decide +kernel
theorem dX2_begin_54 : decode cX2_begin 54 = .ok (.getfield 9, 3) := by decide +kernel
theorem dX2_begin_57 : decode cX2_begin 57 = .ok (.iload_n 1, 1) := by decide +kernel
theorem dX2_begin_58 : decode cX2_begin 58 = .ok (.iconst (-1), 1) := by decide +kernel
theorem dX2_begin_59 : decode cX2_begin 59 = .ok (.iastore, 1) := by decide +kernel
theorem dX2_begin_60 : decode cX2_begin 60 = .ok (.aload_n 0, 1) := by decide +kernel
theorem dX2_begin_61 : decode cX2_begin 61 = .ok (.getfield 15, 3) := by decide +kernel
theorem dX2_begin_64 : decode cX2_begin 64 = .ok (.iload_n 1, 1) := by decide +kernel
theorem dX2_begin_65 : decode cX2_begin 65 = .ok (.iconst 0, 1) := by decide +kernel
theorem dX2_begin_66 : decode cX2_begin 66 = .ok (.aload_n 0, 1) := by decide +kernel
theorem dX2_begin_67 : decode cX2_begin 67 = .ok (.getfield 37, 3) := by decide +kernel
theorem dX2_begin_70 : decode cX2_begin 70 = .ok (.getfield 68, 3) := by decide +kernel
theorem dX2_begin_73 : decode cX2_begin 73 = .ok (.iload_n 1, 1) := by decide +kernel
theorem dX2_begin_74 : decode cX2_begin 74 = .ok (.iaload, 1) := by decide +kernel
theorem dX2_begin_75 : decode cX2_begin 75 = .ok (.invokestatic 71, 3) := by decide +kernel
theorem dX2_begin_78 : decode cX2_begin 78 = .ok (.iastore, 1) := by decide +kernel
theorem dX2_begin_79 : decode cX2_begin 79 = .ok (.aload_n 0, 1) := by decide +kernel
theorem dX2_begin_80 : decode cX2_begin 80 = .ok (.getfield 18, 3) := by decide +kernel
theorem dX2_begin_83 : decode cX2_begin 83 = .ok (.iload_n 1, 1) := by decide +kernel
theorem dX2_begin_84 : decode cX2_begin 84 = .ok (.iconst 0, 1) := by decide +kernel
theorem dX2_begin_85 : decode cX2_begin 85 = .ok (.iastore, 1) := by decide +kernel
theorem dX2_begin_86 : decode cX2_begin 86 = .ok (.iinc 1 1, 3) := by decide +kernel
theorem dX2_begin_89 : decode cX2_begin 89 = .ok (.goto (-47), 3) := by decide +kernel
theorem dX2_begin_92 : decode cX2_begin 92 = .ok (.iconst 0, 1) := by decide +kernel
theorem dX2_begin_93 : decode cX2_begin 93 = .ok (.istore_n 1, 1) := by decide +kernel
theorem dX2_begin_94 : decode cX2_begin 94 = .ok (.iload_n 1, 1) := by decide +kernel
theorem dX2_begin_95 : decode cX2_begin 95 = .ok (.aload_n 0, 1) := by decide +kernel
theorem dX2_begin_96 : decode cX2_begin 96 = .ok (.getfield 37, 3) := by decide +kernel
theorem dX2_begin_99 : decode cX2_begin 99 = .ok (.getfield 45, 3) := by decide +kernel
theorem dX2_begin_102 : decode cX2_begin 102 = .ok (.if_icmp .ge 79, 3) := by decide +kernel
theorem dX2_begin_105 : decode cX2_begin 105 = .ok (.aload_n 0, 1) := by decide +kernel
theorem dX2_begin_106 : decode cX2_begin 106 = .ok (.getfield 21, 3) := by decide +kernel
theorem dX2_begin_109 : decode cX2_begin 109 = .ok (.iload_n 1, 1) := by decide +kernel
theorem dX2_begin_110 : decode cX2_begin 110 = .ok (.iconst (-1), 1) := by decide +kernel
theorem dX2_begin_111 : decode cX2_begin 111 = .ok (.iastore, 1) := by decide +kernel
theorem dX2_begin_112 : decode cX2_begin 112 = .ok (.aload_n 0, 1) := by decide +kernel
theorem dX2_begin_113 : decode cX2_begin 113 = .ok (.getfield 24, 3) := by decide +kernel
theorem dX2_begin_116 : decode cX2_begin 116 = .ok (.iload_n 1, 1) := by decide +kernel
theorem dX2_begin_117 : decode cX2_begin 117 = .ok (.aload_n 0, 1) := by decide +kernel
theorem dX2_begin_118 : decode cX2_begin 118 = .ok (.getfield 37, 3) := by decide +kernel
theorem dX2_begin_121 : decode cX2_begin 121 = .ok (.getfield 77, 3) := by decide +kernel
theorem dX2_begin_124 : decode cX2_begin 124 = .ok (.iload_n 1, 1) := by decide +kernel
theorem dX2_begin_125 : decode cX2_begin 125 = .ok (.iaload, 1) := by decide +kernel
theorem dX2_begin_126 : decode cX2_begin 126 = .ok (.iastore, 1) := by decide +kernel
theorem dX2_begin_127 : decode cX2_begin 127 = .ok (.aload_n 0, 1) := by decide +kernel
theorem dX2_begin_128 : decode cX2_begin 128 = .ok (.getfield 27, 3) := by decide +kernel
theorem dX2_begin_131 : decode cX2_begin 131 = .ok (.iload_n 1, 1) := by decide +kernel
theorem dX2_begin_132 : decode cX2_begin 132 = .ok (.iconst 0, 1) := by decide +kernel
theorem dX2_begin_133 : decode cX2_begin 133 = .ok (.iastore, 1) := by decide +kernel
theorem dX2_begin_134 : decode cX2_begin 134 = .ok (.aload_n 0, 1) := by decide +kernel
theorem dX2_begin_135 : decode cX2_begin 135 = .ok (.getfield 37, 3) := by decide +kernel
theorem dX2_begin_138 : decode cX2_begin 138 = .ok (.aload_n 0, 1) := by decide +kernel
theorem dX2_begin_139 : decode cX2_begin 139 = .ok (.getfield 37, 3) := by decide +kernel
theorem dX2_begin_142 : decode cX2_begin 142 = .ok (.getfield 80, 3) := by decide +kernel
theorem dX2_begin_145 : decode cX2_begin 145 = .ok (.iload_n 1, 1) := by decide +kernel
theorem dX2_begin_146 : decode cX2_begin 146 = .ok (.iaload, 1) := by decide +kernel
theorem dX2_begin_147 : decode cX2_begin 147 = .ok (.invokevirtual 83, 3) := by decide +kernel
theorem dX2_begin_150 : decode cX2_begin 150 = .ok (.ifCond .eq 20, 3) := by decide +kernel
theorem dX2_begin_153 : decode cX2_begin 153 = .ok (.aload_n 0, 1) := by decide +kernel
theorem dX2_begin_154 : decode cX2_begin 154 = .ok (.iload_n 1, 1) := by decide +kernel
theorem dX2_begin_155 : decode cX2_begin 155 = .ok (.aload_n 0, 1) := by decide +kernel
theorem dX2_begin_156 : decode cX2_begin 156 = .ok (.getfield 37, 3) := by decide +kernel
theorem dX2_begin_159 : decode cX2_begin 159 = .ok (.getfield 80, 3) := by decide +kernel
theorem dX2_begin_162 : decode cX2_begin 162 = .ok (.iload_n 1, 1) := by decide +kernel
theorem dX2_begin_163 : decode cX2_begin 163 = .ok (.iaload, 1) := by decide +kernel
theorem dX2_begin_164 : decode cX2_begin 164 = .ok (.invokevirtual 87, 3) := by decide +kernel
theorem dX2_begin_167 : decode cX2_begin 167 = .ok (.goto 8, 3) := by decide +kernel
theorem dX2_begin_170 : decode cX2_begin 170 = .ok (.aload_n 0, 1) := by decide +kernel
theorem dX2_begin_171 : decode cX2_begin 171 = .ok (.iload_n 1, 1) := by decide +kernel
theorem dX2_begin_172 : decode cX2_begin 172 = .ok (.invokevirtual 91, 3) := by decide +kernel
theorem dX2_begin_175 : decode cX2_begin 175 = .ok (.iinc 1 1, 3) := by decide +kernel
theorem dX2_begin_178 : decode cX2_begin 178 = .ok (.goto (-84), 3) := by decide +kernel
theorem dX2_begin_181 : decode cX2_begin 181 = .ok (.return_, 1) := by decide +kernel
theorem dX2_buyFree_0 : decode cX2_buyFree 0 = .ok (.aload_n 0, 1) := by decide +kernel
theorem dX2_buyFree_1 : decode cX2_buyFree 1 = .ok (.getfield 24, 3) := by decide +kernel
theorem dX2_buyFree_4 : decode cX2_buyFree 4 = .ok (.iload_n 1, 1) := by decide +kernel
theorem dX2_buyFree_5 : decode cX2_buyFree 5 = .ok (.dup2, 1) := by decide +kernel
theorem dX2_buyFree_6 : decode cX2_buyFree 6 = .ok (.iaload, 1) := by decide +kernel
theorem dX2_buyFree_7 : decode cX2_buyFree 7 = .ok (.aload_n 0, 1) := by decide +kernel
theorem dX2_buyFree_8 : decode cX2_buyFree 8 = .ok (.iload_n 2, 1) := by decide +kernel
theorem dX2_buyFree_9 : decode cX2_buyFree 9 = .ok (.invokevirtual 162, 3) := by decide +kernel
theorem dX2_buyFree_12 : decode cX2_buyFree 12 = .ok (.isub, 1) := by decide +kernel
theorem dX2_buyFree_13 : decode cX2_buyFree 13 = .ok (.iastore, 1) := by decide +kernel
theorem dX2_buyFree_14 : decode cX2_buyFree 14 = .ok (.aload_n 0, 1) := by decide +kernel
theorem dX2_buyFree_15 : decode cX2_buyFree 15 = .ok (.iload_n 1, 1) := by decide +kernel
theorem dX2_buyFree_16 : decode cX2_buyFree 16 = .ok (.invokevirtual 171, 3) := by decide +kernel
theorem dX2_buyFree_19 : decode cX2_buyFree 19 = .ok (.aload_n 0, 1) := by decide +kernel
theorem dX2_buyFree_20 : decode cX2_buyFree 20 = .ok (.iload_n 1, 1) := by decide +kernel
theorem dX2_buyFree_21 : decode cX2_buyFree 21 = .ok (.iload_n 2, 1) := by decide +kernel
theorem dX2_buyFree_22 : decode cX2_buyFree 22 = .ok (.invokevirtual 87, 3) := by decide +kernel
theorem dX2_buyFree_25 : decode cX2_buyFree 25 = .ok (.aload_n 0, 1) := by decide +kernel
theorem dX2_buyFree_26 : decode cX2_buyFree 26 = .ok (.dup, 1) := by decide +kernel
theorem dX2_buyFree_27 : decode cX2_buyFree 27 = .ok (.getfield 53, 3) := by decide +kernel
theorem dX2_buyFree_30 : decode cX2_buyFree 30 = .ok (.iconst 1, 1) := by decide +kernel
theorem dX2_buyFree_31 : decode cX2_buyFree 31 = .ok (.iload_n 1, 1) := by decide +kernel
theorem dX2_buyFree_32 : decode cX2_buyFree 32 = .ok (.ishl, 1) := by decide +kernel
theorem dX2_buyFree_33 : decode cX2_buyFree 33 = .ok (.ior, 1) := by decide +kernel
theorem dX2_buyFree_34 : decode cX2_buyFree 34 = .ok (.putfield 53, 3) := by decide +kernel
theorem dX2_buyFree_37 : decode cX2_buyFree 37 = .ok (.return_, 1) := by decide +kernel
theorem dX2_calledThen_0 : decode cX2_calledThen 0 = .ok (.aload_n 0, 1) := by decide +kernel
theorem dX2_calledThen_1 : decode cX2_calledThen 1 = .ok (.iload_n 2, 1) := by decide +kernel
theorem dX2_calledThen_2 : decode cX2_calledThen 2 = .ok (.invokevirtual 215, 3) := by decide +kernel
theorem dX2_calledThen_5 : decode cX2_calledThen 5 = .ok (.ifCond .eq 23, 3) := by decide +kernel
theorem dX2_calledThen_8 : decode cX2_calledThen 8 = .ok (.aload_n 0, 1) := by decide +kernel
theorem dX2_calledThen_9 : decode cX2_calledThen 9 = .ok (.getfield 33, 3) := by decide +kernel
theorem dX2_calledThen_12 : decode cX2_calledThen 12 = .ok (.iload_n 2, 1) := by decide +kernel
theorem dX2_calledThen_13 : decode cX2_calledThen 13 = .ok (.laload, 1) := by decide +kernel
theorem dX2_calledThen_14 : decode cX2_calledThen 14 = .ok (.iconst 4, 1) := by decide +kernel
theorem dX2_calledThen_15 : decode cX2_calledThen 15 = .ok (.iload_n 1, 1) := by decide +kernel
theorem dX2_calledThen_16 : decode cX2_calledThen 16 = .ok (.imul, 1) := by decide +kernel
theorem dX2_calledThen_17 : decode cX2_calledThen 17 = .ok (.lushr, 1) := by decide +kernel
theorem dX2_calledThen_18 : decode cX2_calledThen 18 = .ok (.ldc2_w 218, 3) := by decide +kernel
theorem dX2_calledThen_21 : decode cX2_calledThen 21 = .ok (.land, 1) := by decide +kernel
theorem dX2_calledThen_22 : decode cX2_calledThen 22 = .ok (.l2i, 1) := by decide +kernel
theorem dX2_calledThen_23 : decode cX2_calledThen 23 = .ok (.iconst 1, 1) := by decide +kernel
theorem dX2_calledThen_24 : decode cX2_calledThen 24 = .ok (.isub, 1) := by decide +kernel
theorem dX2_calledThen_25 : decode cX2_calledThen 25 = .ok (.goto 4, 3) := by decide +kernel
