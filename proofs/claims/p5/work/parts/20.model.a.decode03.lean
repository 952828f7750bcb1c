theorem dX12_feasts_27 : decode cX12_feasts 27 = .ok (.aload_n 0, 1) := by decide +kernel
theorem dX12_feasts_28 : decode cX12_feasts 28 = .ok (.getfield 33, 3) := by decide +kernel
theorem dX12_feasts_31 : decode cX12_feasts 31 = .ok (.sipush 146, 3) := by decide +kernel
theorem dX12_feasts_34 : decode cX12_feasts 34 = .ok (.iaload, 1) := by decide +kernel
theorem dX12_feasts_35 : decode cX12_feasts 35 = .ok (.istore 4, 2) := by decide +kernel
theorem dX12_feasts_37 : decode cX12_feasts 37 = .ok (.iload 4, 2) := by decide +kernel
theorem dX12_feasts_39 : decode cX12_feasts 39 = .ok (.sipush 200, 3) := by decide +kernel
theorem dX12_feasts_42 : decode cX12_feasts 42 = .ok (.aload_n 0, 1) := by decide +kernel
theorem dX12_feasts_43 : decode cX12_feasts 43 = .ok (.getfield 33, 3) := by decide +kernel
theorem dX12_feasts_46 : decode cX12_feasts 46 = .ok (.sipush 146, 3) := by decide +kernel
theorem dX12_feasts_49 : decode cX12_feasts 49 = .ok (.iaload, 1) := by decide +kernel
theorem dX12_feasts_50 : decode cX12_feasts 50 = .ok (.iload_n 2, 1) := by decide +kernel
theorem dX12_feasts_51 : decode cX12_feasts 51 = .ok (.iadd, 1) := by decide +kernel
theorem dX12_feasts_52 : decode cX12_feasts 52 = .ok (.invokestatic 350, 3) := by decide +kernel
theorem dX12_feasts_55 : decode cX12_feasts 55 = .ok (.if_icmp .ge 44, 3) := by decide +kernel
theorem dX12_feasts_58 : decode cX12_feasts 58 = .ok (.aload_n 0, 1) := by decide +kernel
theorem dX12_feasts_59 : decode cX12_feasts 59 = .ok (.getfield 33, 3) := by decide +kernel
theorem dX12_feasts_62 : decode cX12_feasts 62 = .ok (.bipush 20, 2) := by decide +kernel
theorem dX12_feasts_64 : decode cX12_feasts 64 = .ok (.iload_n 1, 1) := by decide +kernel
theorem dX12_feasts_65 : decode cX12_feasts 65 = .ok (.iadd, 1) := by decide +kernel
theorem dX12_feasts_66 : decode cX12_feasts 66 = .ok (.iaload, 1) := by decide +kernel
theorem dX12_feasts_67 : decode cX12_feasts 67 = .ok (.ifCond .le 32, 3) := by decide +kernel
theorem dX12_feasts_70 : decode cX12_feasts 70 = .ok (.iload_n 3, 1) := by decide +kernel
theorem dX12_feasts_71 : decode cX12_feasts 71 = .ok (.iload 4, 2) := by decide +kernel
theorem dX12_feasts_73 : decode cX12_feasts 73 = .ok (.aload_n 0, 1) := by decide +kernel
theorem dX12_feasts_74 : decode cX12_feasts 74 = .ok (.getfield 33, 3) := by decide +kernel
theorem dX12_feasts_77 : decode cX12_feasts 77 = .ok (.bipush 20, 2) := by decide +kernel
theorem dX12_feasts_79 : decode cX12_feasts 79 = .ok (.iload_n 1, 1) := by decide +kernel
theorem dX12_feasts_80 : decode cX12_feasts 80 = .ok (.iadd, 1) := by decide +kernel
theorem dX12_feasts_81 : decode cX12_feasts 81 = .ok (.iaload, 1) := by decide +kernel
theorem dX12_feasts_82 : decode cX12_feasts 82 = .ok (.irem, 1) := by decide +kernel
theorem dX12_feasts_83 : decode cX12_feasts 83 = .ok (.ifCond .ne 7, 3) := by decide +kernel
theorem dX12_feasts_86 : decode cX12_feasts 86 = .ok (.iconst 1, 1) := by decide +kernel
theorem dX12_feasts_87 : decode cX12_feasts 87 = .ok (.goto 4, 3) := by decide +kernel
theorem dX12_feasts_90 : decode cX12_feasts 90 = .ok (.iconst 0, 1) := by decide +kernel
theorem dX12_feasts_91 : decode cX12_feasts 91 = .ok (.iadd, 1) := by decide +kernel
theorem dX12_feasts_92 : decode cX12_feasts 92 = .ok (.istore_n 3, 1) := by decide +kernel
theorem dX12_feasts_93 : decode cX12_feasts 93 = .ok (.iinc 4 1, 3) := by decide +kernel
theorem dX12_feasts_96 : decode cX12_feasts 96 = .ok (.goto (-59), 3) := by decide +kernel
theorem dX12_feasts_99 : decode cX12_feasts 99 = .ok (.iload_n 3, 1) := by decide +kernel
theorem dX12_feasts_100 : decode cX12_feasts 100 = .ok (.ireturn, 1) := by decide +kernel
theorem dX12_feed_0 : decode cX12_feed 0 = .ok (.aload_n 0, 1) := by decide +kernel
theorem dX12_feed_1 : decode cX12_feed 1 = .ok (.iconst 0, 1) := by decide +kernel
theorem dX12_feed_2 : decode cX12_feed 2 = .ok (.putfield 1, 3) := by decide +kernel
theorem dX12_feed_5 : decode cX12_feed 5 = .ok (.aload_n 0, 1) := by decide +kernel
theorem dX12_feed_6 : decode cX12_feed 6 = .ok (.getfield 7, 3) := by decide +kernel
theorem dX12_feed_9 : decode cX12_feed 9 = .ok (.bipush 20, 2) := by decide +kernel
theorem dX12_feed_11 : decode cX12_feed 11 = .ok (.iadd, 1) := by decide +kernel
theorem dX12_feed_12 : decode cX12_feed 12 = .ok (.sipush 940, 3) := by decide +kernel
theorem dX12_feed_15 : decode cX12_feed 15 = .ok (.if_icmp .le 5, 3) := by decide +kernel
theorem dX12_feed_18 : decode cX12_feed 18 = .ok (.iconst (-1), 1) := by decide +kernel
theorem dX12_feed_19 : decode cX12_feed 19 = .ok (.ireturn, 1) := by decide +kernel
theorem dX12_feed_20 : decode cX12_feed 20 = .ok (.aload_n 0, 1) := by decide +kernel
theorem dX12_feed_21 : decode cX12_feed 21 = .ok (.iload_n 1, 1) := by decide +kernel
theorem dX12_feed_22 : decode cX12_feed 22 = .ok (.invokevirtual 10, 3) := by decide +kernel
theorem dX12_feed_25 : decode cX12_feed 25 = .ok (.aload_n 0, 1) := by decide +kernel
theorem dX12_feed_26 : decode cX12_feed 26 = .ok (.iload_n 2, 1) := by decide +kernel
theorem dX12_feed_27 : decode cX12_feed 27 = .ok (.invokevirtual 10, 3) := by decide +kernel
theorem dX12_feed_30 : decode cX12_feed 30 = .ok (.aload_n 0, 1) := by decide +kernel
theorem dX12_feed_31 : decode cX12_feed 31 = .ok (.iload_n 3, 1) := by decide +kernel
theorem dX12_feed_32 : decode cX12_feed 32 = .ok (.invokevirtual 10, 3) := by decide +kernel
theorem dX12_feed_35 : decode cX12_feed 35 = .ok (.aload_n 0, 1) := by decide +kernel
theorem dX12_feed_36 : decode cX12_feed 36 = .ok (.iload 4, 2) := by decide +kernel
theorem dX12_feed_38 : decode cX12_feed 38 = .ok (.invokevirtual 10, 3) := by decide +kernel
theorem dX12_feed_41 : decode cX12_feed 41 = .ok (.aload_n 0, 1) := by decide +kernel
theorem dX12_feed_42 : decode cX12_feed 42 = .ok (.iload 5, 2) := by decide +kernel
theorem dX12_feed_44 : decode cX12_feed 44 = .ok (.invokevirtual 10, 3) := by decide +kernel
theorem dX12_feed_47 : decode cX12_feed 47 = .ok (.aload_n 0, 1) := by decide +kernel
theorem dX12_feed_48 : decode cX12_feed 48 = .ok (.getfield 7, 3) := by decide +kernel
theorem dX12_feed_51 : decode cX12_feed 51 = .ok (.ireturn, 1) := by decide +kernel
theorem dX12_find_0 : decode cX12_find 0 = .ok (.iconst 0, 1) := by decide +kernel
theorem dX12_find_1 : decode cX12_find 1 = .ok (.istore_n 3, 1) := by decide +kernel
theorem dX12_find_2 : decode cX12_find 2 = .ok (.iload_n 3, 1) := by decide +kernel
theorem dX12_find_3 : decode cX12_find 3 = .ok (.iload_n 2, 1) := by decide +kernel
theorem dX12_find_4 : decode cX12_find 4 = .ok (.if_icmp .ge 27, 3) := by decide +kernel
theorem dX12_find_7 : decode cX12_find 7 = .ok (.aload_n 0, 1) := by decide +kernel
theorem dX12_find_8 : decode cX12_find 8 = .ok (.getfield 43, 3) := by decide +kernel
theorem dX12_find_11 : decode cX12_find 11 = .ok (.iload_n 1, 1) := by decide +kernel
theorem dX12_find_12 : decode cX12_find 12 = .ok (.iload_n 3, 1) := by decide +kernel
theorem dX12_find_13 : decode cX12_find 13 = .ok (.iadd, 1) := by decide +kernel
theorem dX12_find_14 : decode cX12_find 14 = .ok (.laload, 1) := by decide +kernel
theorem dX12_find_15 : decode cX12_find 15 = .ok (.aload_n 0, 1) := by decide +kernel
theorem dX12_find_16 : decode cX12_find 16 = .ok (.getfield 158, 3) := by decide +kernel
theorem dX12_find_19 : decode cX12_find 19 = .ok (.lcmp, 1) := by decide +kernel
theorem dX12_find_20 : decode cX12_find 20 = .ok (.ifCond .ne 5, 3) := by decide +kernel
theorem dX12_find_23 : decode cX12_find 23 = .ok (.iload_n 3, 1) := by decide +kernel
theorem dX12_find_24 : decode cX12_find 24 = .ok (.ireturn, 1) := by decide +kernel
theorem dX12_find_25 : decode cX12_find 25 = .ok (.iinc 3 1, 3) := by decide +kernel
theorem dX12_find_28 : decode cX12_find 28 = .ok (.goto (-26), 3) := by decide +kernel
theorem dX12_find_31 : decode cX12_find 31 = .ok (.iconst (-1), 1) := by decide +kernel
theorem dX12_find_32 : decode cX12_find 32 = .ok (.ireturn, 1) := by decide +kernel
theorem dX12_flee_0 : decode cX12_flee 0 = .ok (.aload_n 0, 1) := by decide +kernel
theorem dX12_flee_1 : decode cX12_flee 1 = .ok (.iconst 0, 1) := by decide +kernel
theorem dX12_flee_2 : decode cX12_flee 2 = .ok (.putfield 1, 3) := by decide +kernel
theorem dX12_flee_5 : decode cX12_flee 5 = .ok (.aload_n 0, 1) := by decide +kernel
theorem dX12_flee_6 : decode cX12_flee 6 = .ok (.iload_n 1, 1) := by decide +kernel
theorem dX12_flee_7 : decode cX12_flee 7 = .ok (.invokevirtual 236, 3) := by decide +kernel
theorem dX12_flee_10 : decode cX12_flee 10 = .ok (.ifCond .ne 5, 3) := by decide +kernel
theorem dX12_flee_13 : decode cX12_flee 13 = .ok (.iconst (-1), 1) := by decide +kernel
theorem dX12_flee_14 : decode cX12_flee 14 = .ok (.ireturn, 1) := by decide +kernel
theorem dX12_flee_15 : decode cX12_flee 15 = .ok (.aload_n 0, 1) := by decide +kernel
theorem dX12_flee_16 : decode cX12_flee 16 = .ok (.iload_n 1, 1) := by decide +kernel
theorem dX12_flee_17 : decode cX12_flee 17 = .ok (.invokevirtual 305, 3) := by decide +kernel
theorem dX12_flee_20 : decode cX12_flee 20 = .ok (.istore_n 2, 1) := by decide +kernel
theorem dX12_flee_21 : decode cX12_flee 21 = .ok (.iload_n 2, 1) := by decide +kernel
theorem dX12_flee_22 : decode cX12_flee 22 = .ok (.ifCond .le 5, 3) := by decide +kernel
theorem dX12_flee_25 : decode cX12_flee 25 = .ok (.iload_n 2, 1) := by decide +kernel
theorem dX12_flee_26 : decode cX12_flee 26 = .ok (.ireturn, 1) := by decide +kernel
theorem dX12_flee_27 : decode cX12_flee 27 = .ok (.aload_n 0, 1) := by decide +kernel
theorem dX12_flee_28 : decode cX12_flee 28 = .ok (.invokevirtual 280, 3) := by decide +kernel
theorem dX12_flee_31 : decode cX12_flee 31 = .ok (.aload_n 0, 1) := by decide +kernel
theorem dX12_flee_32 : decode cX12_flee 32 = .ok (.iload_n 1, 1) := by decide +kernel
theorem dX12_flee_33 : decode cX12_flee 33 = .ok (.invokevirtual 308, 3) := by decide +kernel
theorem dX12_flee_36 : decode cX12_flee 36 = .ok (.iconst 0, 1) := by decide +kernel
theorem dX12_flee_37 : decode cX12_flee 37 = .ok (.ireturn, 1) := by decide +kernel
theorem dX12_flees_0 : decode cX12_flees 0 = .ok (.aload_n 0, 1) := by decide +kernel
theorem dX12_flees_1 : decode cX12_flees 1 = .ok (.getfield 33, 3) := by decide +kernel
theorem dX12_flees_4 : decode cX12_flees 4 = .ok (.sipush 148, 3) := by decide +kernel
theorem dX12_flees_7 : decode cX12_flees 7 = .ok (.dup2, 1) := by decide +kernel
theorem dX12_flees_8 : decode cX12_flees 8 = .ok (.iaload, 1) := by decide +kernel
theorem dX12_flees_9 : decode cX12_flees 9 = .ok (.iconst 1, 1) := by decide +kernel
theorem dX12_flees_10 : decode cX12_flees 10 = .ok (.aload_n 0, 1) := by decide +kernel
theorem dX12_flees_11 : decode cX12_flees 11 = .ok (.getfield 33, 3) := by decide +kernel
theorem dX12_flees_14 : decode cX12_flees 14 = .ok (.sipush 161, 3) := by decide +kernel
theorem dX12_flees_17 : decode cX12_flees 17 = .ok (.iload_n 1, 1) := by decide +kernel
theorem dX12_flees_18 : decode cX12_flees 18 = .ok (.iadd, 1) := by decide +kernel
theorem dX12_flees_19 : decode cX12_flees 19 = .ok (.iaload, 1) := by decide +kernel
theorem dX12_flees_20 : decode cX12_flees 20 = .ok (.iconst 1, 1) := by decide +kernel
theorem dX12_flees_21 : decode cX12_flees 21 = .ok (.isub, 1) := by decide +kernel
theorem dX12_flees_22 : decode cX12_flees 22 = .ok (.ishl, 1) := by decide +kernel
theorem dX12_flees_23 : decode cX12_flees 23 = .ok (.ior, 1) := by decide +kernel
theorem dX12_flees_24 : decode cX12_flees 24 = .ok (.iastore, 1) := by decide +kernel
theorem dX12_flees_25 : decode cX12_flees 25 = .ok (.aload_n 0, 1) := by decide +kernel
theorem dX12_flees_26 : decode cX12_flees 26 = .ok (.getfield 33, 3) := by decide +kernel
theorem dX12_flees_29 : decode cX12_flees 29 = .ok (.sipush 161, 3) := by decide +kernel
theorem dX12_flees_32 : decode cX12_flees 32 = .ok (.iload_n 1, 1) := by decide +kernel
theorem dX12_flees_33 : decode cX12_flees 33 = .ok (.iadd, 1) := by decide +kernel
theorem dX12_flees_34 : decode cX12_flees 34 = .ok (.iconst 0, 1) := by decide +kernel
theorem dX12_flees_35 : decode cX12_flees 35 = .ok (.iastore, 1) := by decide +kernel
theorem dX12_flees_36 : decode cX12_flees 36 = .ok (.aload_n 0, 1) := by decide +kernel
theorem dX12_flees_37 : decode cX12_flees 37 = .ok (.getfield 33, 3) := by decide +kernel
theorem dX12_flees_40 : decode cX12_flees 40 = .ok (.sipush 150, 3) := by decide +kernel
theorem dX12_flees_43 : decode cX12_flees 43 = .ok (.dup2, 1) := by decide +kernel
theorem dX12_flees_44 : decode cX12_flees 44 = .ok (.iaload, 1) := by decide +kernel
theorem dX12_flees_45 : decode cX12_flees 45 = .ok (.iconst 1, 1) := by decide +kernel
theorem dX12_flees_46 : decode cX12_flees 46 = .ok (.iload_n 1, 1) := by decide +kernel
theorem dX12_flees_47 : decode cX12_flees 47 = .ok (.ishl, 1) := by decide +kernel
theorem dX12_flees_48 : decode cX12_flees 48 = .ok (.ior, 1) := by decide +kernel
theorem dX12_flees_49 : decode cX12_flees 49 = .ok (.iastore, 1) := by decide +kernel
theorem dX12_flees_50 : decode cX12_flees 50 = .ok (.aload_n 0, 1) := by decide +kernel
theorem dX12_flees_51 : decode cX12_flees 51 = .ok (.iload_n 1, 1) := by decide +kernel
theorem dX12_flees_52 : decode cX12_flees 52 = .ok (.invokevirtual 230, 3) := by decide +kernel
theorem dX12_flees_55 : decode cX12_flees 55 = .ok (.aload_n 0, 1) := by decide +kernel
theorem dX12_flees_56 : decode cX12_flees 56 = .ok (.iload_n 1, 1) := by decide +kernel
theorem dX12_flees_57 : decode cX12_flees 57 = .ok (.invokevirtual 271, 3) := by decide +kernel
theorem dX12_flees_60 : decode cX12_flees 60 = .ok (.return_, 1) := by decide +kernel
theorem dX12_four_0 : decode cX12_four 0 = .ok (.bipush 24, 2) := by decide +kernel
theorem dX12_four_2 : decode cX12_four 2 = .ok (.istore_n 2, 1) := by decide +kernel
theorem dX12_four_3 : decode cX12_four 3 = .ok (.iload_n 2, 1) := by decide +kernel
theorem dX12_four_4 : decode cX12_four 4 = .ok (.ifCond .lt 32, 3) := by decide +kernel
theorem dX12_four_7 : decode cX12_four 7 = .ok (.aload_n 0, 1) := by decide +kernel
theorem dX12_four_8 : decode cX12_four 8 = .ok (.getfield 14, 3) := by decide +kernel
theorem dX12_four_11 : decode cX12_four 11 = .ok (.aload_n 0, 1) := by decide +kernel
theorem dX12_four_12 : decode cX12_four 12 = .ok (.getfield 7, 3) := by decide +kernel
theorem dX12_four_15 : decode cX12_four 15 = .ok (.iload_n 1, 1) := by decide +kernel
theorem dX12_four_16 : decode cX12_four 16 = .ok (.iload_n 2, 1) := by decide +kernel
theorem dX12_four_17 : decode cX12_four 17 = .ok (.ishr, 1) := by decide +kernel
theorem dX12_four_18 : decode cX12_four 18 = .ok (.i2b, 1) := by decide +kernel
theorem dX12_four_19 : decode cX12_four 19 = .ok (.bastore, 1) := by decide +kernel
theorem dX12_four_20 : decode cX12_four 20 = .ok (.aload_n 0, 1) := by decide +kernel
theorem dX12_four_21 : decode cX12_four 21 = .ok (.dup, 1) := by decide +kernel
theorem dX12_four_22 : decode cX12_four 22 = .ok (.getfield 7, 3) := by decide +kernel
theorem dX12_four_25 : decode cX12_four 25 = .ok (.iconst 1, 1) := by decide +kernel
theorem dX12_four_26 : decode cX12_four 26 = .ok (.iadd, 1) := by decide +kernel
theorem dX12_four_27 : decode cX12_four 27 = .ok (.putfield 7, 3) := by decide +kernel
theorem dX12_four_30 : decode cX12_four 30 = .ok (.iinc 2 (-8), 3) := by decide +kernel
theorem dX12_four_33 : decode cX12_four 33 = .ok (.goto (-30), 3) := by decide +kernel
theorem dX12_four_36 : decode cX12_four 36 = .ok (.return_, 1) := by decide +kernel
theorem dX12_freeNames_0 : decode cX12_freeNames 0 = .ok (.iconst 0, 1) := by decide +kernel
theorem dX12_freeNames_1 : decode cX12_freeNames 1 = .ok (.istore_n 1, 1) := by decide +kernel
theorem dX12_freeNames_2 : decode cX12_freeNames 2 = .ok (.iconst 0, 1) := by decide +kernel
theorem dX12_freeNames_3 : decode cX12_freeNames 3 = .ok (.istore_n 2, 1) := by decide +kernel
theorem dX12_freeNames_4 : decode cX12_freeNames 4 = .ok (.iload_n 2, 1) := by decide +kernel
theorem dX12_freeNames_5 : decode cX12_freeNames 5 = .ok (.aload_n 0, 1) := by decide +kernel
theorem dX12_freeNames_6 : decode cX12_freeNames 6 = .ok (.getfield 33, 3) := by decide +kernel
theorem dX12_freeNames_9 : decode cX12_freeNames 9 = .ok (.iconst 0, 1) := by decide +kernel
theorem dX12_freeNames_10 : decode cX12_freeNames 10 = .ok (.iaload, 1) := by decide +kernel
theorem dX12_freeNames_11 : decode cX12_freeNames 11 = .ok (.if_icmp .ge 27, 3) := by decide +kernel
theorem dX12_freeNames_14 : decode cX12_freeNames 14 = .ok (.iload_n 1, 1) := by decide +kernel
theorem dX12_freeNames_15 : decode cX12_freeNames 15 = .ok (.aload_n 0, 1) := by decide +kernel
theorem dX12_freeNames_16 : decode cX12_freeNames 16 = .ok (.iload_n 2, 1) := by decide +kernel
theorem dX12_freeNames_17 : decode cX12_freeNames 17 = .ok (.invokevirtual 243, 3) := by decide +kernel
theorem dX12_freeNames_20 : decode cX12_freeNames 20 = .ok (.ifCond .ge 9, 3) := by decide +kernel
theorem dX12_freeNames_23 : decode cX12_freeNames 23 = .ok (.iconst 1, 1) := by decide +kernel
theorem dX12_freeNames_24 : decode cX12_freeNames 24 = .ok (.iload_n 2, 1) := by decide +kernel
theorem dX12_freeNames_25 : decode cX12_freeNames 25 = .ok (.ishl, 1) := by decide +kernel
theorem dX12_freeNames_26 : decode cX12_freeNames 26 = .ok (.goto 4, 3) := by decide +kernel
theorem dX12_freeNames_29 : decode cX12_freeNames 29 = .ok (.iconst 0, 1) := by decide +kernel
theorem dX12_freeNames_30 : decode cX12_freeNames 30 = .ok (.ior, 1) := by decide +kernel
theorem dX12_freeNames_31 : decode cX12_freeNames 31 = .ok (.istore_n 1, 1) := by decide +kernel
theorem dX12_freeNames_32 : decode cX12_freeNames 32 = .ok (.iinc 2 1, 3) := by decide +kernel
theorem dX12_freeNames_35 : decode cX12_freeNames 35 = .ok (.goto (-31), 3) := by decide +kernel
theorem dX12_freeNames_38 : decode cX12_freeNames 38 = .ok (.iload_n 1, 1) := by decide +kernel
theorem dX12_freeNames_39 : decode cX12_freeNames 39 = .ok (.ireturn, 1) := by decide +kernel
theorem dX12_fresh_0 : decode cX12_fresh 0 = .ok (.aload_n 0, 1) := by decide +kernel
theorem dX12_fresh_1 : decode cX12_fresh 1 = .ok (.invokevirtual 188, 3) := by decide +kernel
theorem dX12_fresh_4 : decode cX12_fresh 4 = .ok (.ifCond .ne 9, 3) := by decide +kernel
theorem dX12_fresh_7 : decode cX12_fresh 7 = .ok (.aload_n 0, 1) := by decide +kernel
theorem dX12_fresh_8 : decode cX12_fresh 8 = .ok (.iconst 1, 1) := by decide +kernel
theorem dX12_fresh_9 : decode cX12_fresh 9 = .ok (.invokevirtual 171, 3) := by decide +kernel
theorem dX12_fresh_12 : decode cX12_fresh 12 = .ok (.ireturn, 1) := by decide +kernel
theorem dX12_fresh_13 : decode cX12_fresh 13 = .ok (.aload_n 0, 1) := by decide +kernel
theorem dX12_fresh_14 : decode cX12_fresh 14 = .ok (.bipush 18, 2) := by decide +kernel
theorem dX12_fresh_16 : decode cX12_fresh 16 = .ok (.aload_n 0, 1) := by decide +kernel
theorem dX12_fresh_17 : decode cX12_fresh 17 = .ok (.getfield 37, 3) := by decide +kernel
theorem dX12_fresh_20 : decode cX12_fresh 20 = .ok (.iconst 0, 1) := by decide +kernel
theorem dX12_fresh_21 : decode cX12_fresh 21 = .ok (.iaload, 1) := by decide +kernel
theorem dX12_fresh_22 : decode cX12_fresh 22 = .ok (.invokevirtual 192, 3) := by decide +kernel
theorem dX12_fresh_25 : decode cX12_fresh 25 = .ok (.ifCond .ge 18, 3) := by decide +kernel
theorem dX12_fresh_28 : decode cX12_fresh 28 = .ok (.aload_n 0, 1) := by decide +kernel
theorem dX12_fresh_29 : decode cX12_fresh 29 = .ok (.bipush 27, 2) := by decide +kernel
theorem dX12_fresh_31 : decode cX12_fresh 31 = .ok (.aload_n 0, 1) := by decide +kernel
theorem dX12_fresh_32 : decode cX12_fresh 32 = .ok (.getfield 37, 3) := by decide +kernel
theorem dX12_fresh_35 : decode cX12_fresh 35 = .ok (.iconst 1, 1) := by decide +kernel
theorem dX12_fresh_36 : decode cX12_fresh 36 = .ok (.iaload, 1) := by decide +kernel
theorem dX12_fresh_37 : decode cX12_fresh 37 = .ok (.invokevirtual 192, 3) := by decide +kernel
theorem dX12_fresh_40 : decode cX12_fresh 40 = .ok (.ifCond .lt 9, 3) := by decide +kernel
theorem dX12_fresh_43 : decode cX12_fresh 43 = .ok (.aload_n 0, 1) := by decide +kernel
theorem dX12_fresh_44 : decode cX12_fresh 44 = .ok (.iconst 3, 1) := by decide +kernel
theorem dX12_fresh_45 : decode cX12_fresh 45 = .ok (.invokevirtual 171, 3) := by decide +kernel
theorem dX12_fresh_48 : decode cX12_fresh 48 = .ok (.ireturn, 1) := by decide +kernel
theorem dX12_fresh_49 : decode cX12_fresh 49 = .ok (.aload_n 0, 1) := by decide +kernel
theorem dX12_fresh_50 : decode cX12_fresh 50 = .ok (.getfield 43, 3) := by decide +kernel
theorem dX12_fresh_53 : decode cX12_fresh 53 = .ok (.iload_n 1, 1) := by decide +kernel
theorem dX12_fresh_54 : decode cX12_fresh 54 = .ok (.aload_n 0, 1) := by decide +kernel
theorem dX12_fresh_55 : decode cX12_fresh 55 = .ok (.getfield 158, 3) := by decide +kernel
theorem dX12_fresh_58 : decode cX12_fresh 58 = .ok (.lastore, 1) := by decide +kernel
theorem dX12_fresh_59 : decode cX12_fresh 59 = .ok (.aload_n 0, 1) := by decide +kernel
theorem dX12_fresh_60 : decode cX12_fresh 60 = .ok (.invokevirtual 174, 3) := by decide +kernel
theorem dX12_fresh_63 : decode cX12_fresh 63 = .ok (.iconst 1, 1) := by decide +kernel
theorem dX12_fresh_64 : decode cX12_fresh 64 = .ok (.ireturn, 1) := by decide +kernel
theorem dX12_goes_0 : decode cX12_goes 0 = .ok (.iconst 0, 1) := by decide +kernel
theorem dX12_goes_1 : decode cX12_goes 1 = .ok (.istore_n 2, 1) := by decide +kernel
theorem dX12_goes_2 : decode cX12_goes 2 = .ok (.iload_n 2, 1) := by decide +kernel
theorem dX12_goes_3 : decode cX12_goes 3 = .ok (.iload_n 1, 1) := by decide +kernel
theorem dX12_goes_4 : decode cX12_goes 4 = .ok (.if_icmp .ge 27, 3) := by decide +kernel
theorem dX12_goes_7 : decode cX12_goes 7 = .ok (.aload_n 0, 1) := by decide +kernel
theorem dX12_goes_8 : decode cX12_goes 8 = .ok (.getfield 33, 3) := by decide +kernel
theorem dX12_goes_11 : decode cX12_goes 11 = .ok (.sipush 146, 3) := by decide +kernel
theorem dX12_goes_14 : decode cX12_goes 14 = .ok (.iaload, 1) := by decide +kernel
theorem dX12_goes_15 : decode cX12_goes 15 = .ok (.sipush 200, 3) := by decide +kernel
theorem dX12_goes_18 : decode cX12_goes 18 = .ok (.if_icmp .ge 13, 3) := by decide +kernel
theorem dX12_goes_21 : decode cX12_goes 21 = .ok (.aload_n 0, 1) := by decide +kernel
theorem dX12_goes_22 : decode cX12_goes 22 = .ok (.invokevirtual 323, 3) := by decide +kernel
theorem dX12_goes_25 : decode cX12_goes 25 = .ok (.iinc 2 1, 3) := by decide +kernel
theorem dX12_goes_28 : decode cX12_goes 28 = .ok (.goto (-26), 3) := by decide +kernel
theorem dX12_goes_31 : decode cX12_goes 31 = .ok (.iload_n 2, 1) := by decide +kernel
theorem dX12_goes_32 : decode cX12_goes 32 = .ok (.ireturn, 1) := by decide +kernel
theorem dX12_goesBy_0 : decode cX12_goesBy 0 = .ok (.aload_n 0, 1) := by decide +kernel
theorem dX12_goesBy_1 : decode cX12_goesBy 1 = .ok (.iload_n 2, 1) := by decide +kernel
theorem dX12_goesBy_2 : decode cX12_goesBy 2 = .ok (.putfield 317, 3) := by decide +kernel
theorem dX12_goesBy_5 : decode cX12_goesBy 5 = .ok (.iconst 0, 1) := by decide +kernel
theorem dX12_goesBy_6 : decode cX12_goesBy 6 = .ok (.istore_n 3, 1) := by decide +kernel
theorem dX12_goesBy_7 : decode cX12_goesBy 7 = .ok (.iload_n 3, 1) := by decide +kernel
theorem dX12_goesBy_8 : decode cX12_goesBy 8 = .ok (.iload_n 1, 1) := by decide +kernel
theorem dX12_goesBy_9 : decode cX12_goesBy 9 = .ok (.if_icmp .ge 62, 3) := by decide +kernel
theorem dX12_goesBy_12 : decode cX12_goesBy 12 = .ok (.aload_n 0, 1) := by decide +kernel
theorem dX12_goesBy_13 : decode cX12_goesBy 13 = .ok (.getfield 33, 3) := by decide +kernel
theorem dX12_goesBy_16 : decode cX12_goesBy 16 = .ok (.sipush 146, 3) := by decide +kernel
theorem dX12_goesBy_19 : decode cX12_goesBy 19 = .ok (.iaload, 1) := by decide +kernel
theorem dX12_goesBy_20 : decode cX12_goesBy 20 = .ok (.sipush 200, 3) := by decide +kernel
theorem dX12_goesBy_23 : decode cX12_goesBy 23 = .ok (.if_icmp .ge 48, 3) := by decide +kernel
theorem dX12_goesBy_26 : decode cX12_goesBy 26 = .ok (.iconst 0, 1) := by decide +kernel
theorem dX12_goesBy_27 : decode cX12_goesBy 27 = .ok (.istore 4, 2) := by decide +kernel
theorem dX12_goesBy_29 : decode cX12_goesBy 29 = .ok (.iload 4, 2) := by decide +kernel
theorem dX12_goesBy_31 : decode cX12_goesBy 31 = .ok (.aload_n 0, 1) := by decide +kernel
theorem dX12_goesBy_32 : decode cX12_goesBy 32 = .ok (.getfield 33, 3) := by decide +kernel
theorem dX12_goesBy_35 : decode cX12_goesBy 35 = .ok (.iconst 1, 1) := by decide +kernel
theorem dX12_goesBy_36 : decode cX12_goesBy 36 = .ok (.iaload, 1) := by decide +kernel
theorem dX12_goesBy_37 : decode cX12_goesBy 37 = .ok (.if_icmp .ge 24, 3) := by decide +kernel
theorem dX12_goesBy_40 : decode cX12_goesBy 40 = .ok (.aload_n 0, 1) := by decide +kernel
theorem dX12_goesBy_41 : decode cX12_goesBy 41 = .ok (.iload 4, 2) := by decide +kernel
theorem dX12_goesBy_43 : decode cX12_goesBy 43 = .ok (.invokevirtual 256, 3) := by decide +kernel
theorem dX12_goesBy_46 : decode cX12_goesBy 46 = .ok (.ifCond .ne 9, 3) := by decide +kernel
theorem dX12_goesBy_49 : decode cX12_goesBy 49 = .ok (.aload_n 0, 1) := by decide +kernel
theorem dX12_goesBy_50 : decode cX12_goesBy 50 = .ok (.iload 4, 2) := by decide +kernel
theorem dX12_goesBy_52 : decode cX12_goesBy 52 = .ok (.invokevirtual 389, 3) := by decide +kernel
theorem dX12_goesBy_55 : decode cX12_goesBy 55 = .ok (.iinc 4 1, 3) := by decide +kernel
theorem dX12_goesBy_58 : decode cX12_goesBy 58 = .ok (.goto (-29), 3) := by decide +kernel
theorem dX12_goesBy_61 : decode cX12_goesBy 61 = .ok (.aload_n 0, 1) := by decide +kernel
theorem dX12_goesBy_62 : decode cX12_goesBy 62 = .ok (.invokevirtual 323, 3) := by decide +kernel
theorem dX12_goesBy_65 : decode cX12_goesBy 65 = .ok (.iinc 3 1, 3) := by decide +kernel
theorem dX12_goesBy_68 : decode cX12_goesBy 68 = .ok (.goto (-61), 3) := by decide +kernel
theorem dX12_goesBy_71 : decode cX12_goesBy 71 = .ok (.iload_n 3, 1) := by decide +kernel
theorem dX12_goesBy_72 : decode cX12_goesBy 72 = .ok (.ireturn, 1) := by decide +kernel
theorem dX12_hangedFor_0 : decode cX12_hangedFor 0 = .ok (.aload_n 0, 1) := by decide +kernel
theorem dX12_hangedFor_1 : decode cX12_hangedFor 1 = .ok (.getfield 33, 3) := by decide +kernel
theorem dX12_hangedFor_4 : decode cX12_hangedFor 4 = .ok (.sipush 197, 3) := by decide +kernel
theorem dX12_hangedFor_7 : decode cX12_hangedFor 7 = .ok (.iload_n 1, 1) := by decide +kernel
theorem dX12_hangedFor_8 : decode cX12_hangedFor 8 = .ok (.iadd, 1) := by decide +kernel
theorem dX12_hangedFor_9 : decode cX12_hangedFor 9 = .ok (.iaload, 1) := by decide +kernel
theorem dX12_hangedFor_10 : decode cX12_hangedFor 10 = .ok (.aload_n 0, 1) := by decide +kernel
theorem dX12_hangedFor_11 : decode cX12_hangedFor 11 = .ok (.getfield 33, 3) := by decide +kernel
theorem dX12_hangedFor_14 : decode cX12_hangedFor 14 = .ok (.sipush 146, 3) := by decide +kernel
theorem dX12_hangedFor_17 : decode cX12_hangedFor 17 = .ok (.iaload, 1) := by decide +kernel
theorem dX12_hangedFor_18 : decode cX12_hangedFor 18 = .ok (.if_icmp .le 25, 3) := by decide +kernel
theorem dX12_hangedFor_21 : decode cX12_hangedFor 21 = .ok (.aload_n 0, 1) := by decide +kernel
theorem dX12_hangedFor_22 : decode cX12_hangedFor 22 = .ok (.getfield 33, 3) := by decide +kernel
theorem dX12_hangedFor_25 : decode cX12_hangedFor 25 = .ok (.sipush 197, 3) := by decide +kernel
theorem dX12_hangedFor_28 : decode cX12_hangedFor 28 = .ok (.iload_n 1, 1) := by decide +kernel
theorem dX12_hangedFor_29 : decode cX12_hangedFor 29 = .ok (.iadd, 1) := by decide +kernel
theorem dX12_hangedFor_30 : decode cX12_hangedFor 30 = .ok (.iaload, 1) := by decide +kernel
theorem dX12_hangedFor_31 : decode cX12_hangedFor 31 = .ok (.aload_n 0, 1) := by decide +kernel
theorem dX12_hangedFor_32 : decode cX12_hangedFor 32 = .ok (.getfield 33, 3) := by decide +kernel
theorem dX12_hangedFor_35 : decode cX12_hangedFor 35 = .ok (.sipush 146, 3) := by decide +kernel
theorem dX12_hangedFor_38 : decode cX12_hangedFor 38 = .ok (.iaload, 1) := by decide +kernel
theorem dX12_hangedFor_39 : decode cX12_hangedFor 39 = .ok (.isub, 1) := by decide +kernel
theorem dX12_hangedFor_40 : decode cX12_hangedFor 40 = .ok (.goto 4, 3) := by decide +kernel
theorem dX12_hangedFor_43 : decode cX12_hangedFor 43 = .ok (.iconst 0, 1) := by decide +kernel
theorem dX12_hangedFor_44 : decode cX12_hangedFor 44 = .ok (.ireturn, 1) := by decide +kernel
theorem dX12_hasChanged_0 : decode cX12_hasChanged 0 = .ok (.aload_n 0, 1) := by decide +kernel
theorem dX12_hasChanged_1 : decode cX12_hasChanged 1 = .ok (.getfield 33, 3) := by decide +kernel
theorem dX12_hasChanged_4 : decode cX12_hasChanged 4 = .ok (.sipush 149, 3) := by decide +kernel
theorem dX12_hasChanged_7 : decode cX12_hasChanged 7 = .ok (.iaload, 1) := by decide +kernel
theorem dX12_hasChanged_8 : decode cX12_hasChanged 8 = .ok (.iload_n 1, 1) := by decide +kernel
theorem dX12_hasChanged_9 : decode cX12_hasChanged 9 = .ok (.invokestatic 215, 3) := by decide +kernel
theorem dX12_hasChanged_12 : decode cX12_hasChanged 12 = .ok (.ireturn, 1) := by decide +kernel
theorem dX12_hasEnough_0 : decode cX12_hasEnough 0 = .ok (.aload_n 0, 1) := by decide +kernel
theorem dX12_hasEnough_1 : decode cX12_hasEnough 1 = .ok (.invokevirtual 365, 3) := by decide +kernel
theorem dX12_hasEnough_4 : decode cX12_hasEnough 4 = .ok (.istore_n 2, 1) := by decide +kernel
theorem dX12_hasEnough_5 : decode cX12_hasEnough 5 = .ok (.aload_n 0, 1) := by decide +kernel
theorem dX12_hasEnough_6 : decode cX12_hasEnough 6 = .ok (.invokevirtual 368, 3) := by decide +kernel
theorem dX12_hasEnough_9 : decode cX12_hasEnough 9 = .ok (.invokestatic 371, 3) := by decide +kernel
theorem dX12_hasEnough_12 : decode cX12_hasEnough 12 = .ok (.iload_n 2, 1) := by decide +kernel
theorem dX12_hasEnough_13 : decode cX12_hasEnough 13 = .ok (.ifCond .eq 7, 3) := by decide +kernel
theorem dX12_hasEnough_16 : decode cX12_hasEnough 16 = .ok (.iconst 1, 1) := by decide +kernel
theorem dX12_hasEnough_17 : decode cX12_hasEnough 17 = .ok (.goto 4, 3) := by decide +kernel
theorem dX12_hasEnough_20 : decode cX12_hasEnough 20 = .ok (.iconst 0, 1) := by decide +kernel
theorem dX12_hasEnough_21 : decode cX12_hasEnough 21 = .ok (.iadd, 1) := by decide +kernel
theorem dX12_hasEnough_22 : decode cX12_hasEnough 22 = .ok (.istore_n 3, 1) := by decide +kernel
theorem dX12_hasEnough_23 : decode cX12_hasEnough 23 = .ok (.iload_n 1, 1) := by decide +kernel
theorem dX12_hasEnough_24 : decode cX12_hasEnough 24 = .ok (.aload_n 0, 1) := by decide +kernel
theorem dX12_hasEnough_25 : decode cX12_hasEnough 25 = .ok (.invokevirtual 368, 3) := by decide +kernel
theorem dX12_hasEnough_28 : decode cX12_hasEnough 28 = .ok (.iand, 1) := by decide +kernel
theorem dX12_hasEnough_29 : decode cX12_hasEnough 29 = .ok (.invokestatic 371, 3) := by decide +kernel
theorem dX12_hasEnough_32 : decode cX12_hasEnough 32 = .ok (.iload_n 2, 1) := by decide +kernel
theorem dX12_hasEnough_33 : decode cX12_hasEnough 33 = .ok (.ifCond .eq 15, 3) := by decide +kernel
theorem dX12_hasEnough_36 : decode cX12_hasEnough 36 = .ok (.iload_n 2, 1) := by decide +kernel
theorem dX12_hasEnough_37 : decode cX12_hasEnough 37 = .ok (.iload_n 1, 1) := by decide +kernel
theorem dX12_hasEnough_38 : decode cX12_hasEnough 38 = .ok (.iconst (-1), 1) := by decide +kernel
theorem dX12_hasEnough_39 : decode cX12_hasEnough 39 = .ok (.ixor, 1) := by decide +kernel
theorem dX12_hasEnough_40 : decode cX12_hasEnough 40 = .ok (.iand, 1) := by decide +kernel
theorem dX12_hasEnough_41 : decode cX12_hasEnough 41 = .ok (.ifCond .ne 7, 3) := by decide +kernel
theorem dX12_hasEnough_44 : decode cX12_hasEnough 44 = .ok (.iconst 1, 1) := by decide +kernel
theorem dX12_hasEnough_45 : decode cX12_hasEnough 45 = .ok (.goto 4, 3) := by decide +kernel
theorem dX12_hasEnough_48 : decode cX12_hasEnough 48 = .ok (.iconst 0, 1) := by decide +kernel
theorem dX12_hasEnough_49 : decode cX12_hasEnough 49 = .ok (.iadd, 1) := by decide +kernel
theorem dX12_hasEnough_50 : decode cX12_hasEnough 50 = .ok (.istore 4, 2) := by decide +kernel
theorem dX12_hasEnough_52 : decode cX12_hasEnough 52 = .ok (.iconst 2, 1) := by decide +kernel
theorem dX12_hasEnough_53 : decode cX12_hasEnough 53 = .ok (.iload 4, 2) := by decide +kernel
theorem dX12_hasEnough_55 : decode cX12_hasEnough 55 = .ok (.imul, 1) := by decide +kernel
theorem dX12_hasEnough_56 : decode cX12_hasEnough 56 = .ok (.iload_n 3, 1) := by decide +kernel
theorem dX12_hasEnough_57 : decode cX12_hasEnough 57 = .ok (.if_icmp .le 7, 3) := by decide +kernel
theorem dX12_hasEnough_60 : decode cX12_hasEnough 60 = .ok (.iconst 1, 1) := by decide +kernel
theorem dX12_hasEnough_61 : decode cX12_hasEnough 61 = .ok (.goto 4, 3) := by decide +kernel
theorem dX12_hasEnough_64 : decode cX12_hasEnough 64 = .ok (.iconst 0, 1) := by decide +kernel
theorem dX12_hasEnough_65 : decode cX12_hasEnough 65 = .ok (.ireturn, 1) := by decide +kernel
theorem dX12_holder_0 : decode cX12_holder 0 = .ok (.aload_n 0, 1) := by decide +kernel
theorem dX12_holder_1 : decode cX12_holder 1 = .ok (.iconst 0, 1) := by decide +kernel
theorem dX12_holder_2 : decode cX12_holder 2 = .ok (.putfield 1, 3) := by decide +kernel
theorem dX12_holder_5 : decode cX12_holder 5 = .ok (.aload_n 0, 1) := by decide +kernel
theorem dX12_holder_6 : decode cX12_holder 6 = .ok (.iload_n 1, 1) := by decide +kernel
theorem dX12_holder_7 : decode cX12_holder 7 = .ok (.invokevirtual 246, 3) := by decide +kernel
theorem dX12_holder_10 : decode cX12_holder 10 = .ok (.ifCond .eq 11, 3) := by decide +kernel
theorem dX12_holder_13 : decode cX12_holder 13 = .ok (.aload_n 0, 1) := by decide +kernel
theorem dX12_holder_14 : decode cX12_holder 14 = .ok (.iload_n 2, 1) := by decide +kernel
theorem dX12_holder_15 : decode cX12_holder 15 = .ok (.invokevirtual 329, 3) := by decide +kernel
theorem dX12_holder_18 : decode cX12_holder 18 = .ok (.ifCond .ne 6, 3) := by decide +kernel
theorem dX12_holder_21 : decode cX12_holder 21 = .ok (.bipush (-2), 2) := by decide +kernel
theorem dX12_holder_23 : decode cX12_holder 23 = .ok (.ireturn, 1) := by decide +kernel
theorem dX12_holder_24 : decode cX12_holder 24 = .ok (.iconst 0, 1) := by decide +kernel
theorem dX12_holder_25 : decode cX12_holder 25 = .ok (.istore_n 3, 1) := by decide +kernel
theorem dX12_holder_26 : decode cX12_holder 26 = .ok (.iload_n 3, 1) := by decide +kernel
theorem dX12_holder_27 : decode cX12_holder 27 = .ok (.aload_n 0, 1) := by decide +kernel
theorem dX12_holder_28 : decode cX12_holder 28 = .ok (.getfield 33, 3) := by decide +kernel
theorem dX12_holder_31 : decode cX12_holder 31 = .ok (.iconst 1, 1) := by decide +kernel
theorem dX12_holder_32 : decode cX12_holder 32 = .ok (.iaload, 1) := by decide +kernel
theorem dX12_holder_33 : decode cX12_holder 33 = .ok (.if_icmp .ge 21, 3) := by decide +kernel
theorem dX12_holder_36 : decode cX12_holder 36 = .ok (.aload_n 0, 1) := by decide +kernel
theorem dX12_holder_37 : decode cX12_holder 37 = .ok (.iload_n 3, 1) := by decide +kernel
theorem dX12_holder_38 : decode cX12_holder 38 = .ok (.iload_n 2, 1) := by decide +kernel
theorem dX12_holder_39 : decode cX12_holder 39 = .ok (.invokevirtual 332, 3) := by decide +kernel
theorem dX12_holder_42 : decode cX12_holder 42 = .ok (.iload_n 1, 1) := by decide +kernel
theorem dX12_holder_43 : decode cX12_holder 43 = .ok (.if_icmp .ne 5, 3) := by decide +kernel
theorem dX12_holder_46 : decode cX12_holder 46 = .ok (.iload_n 3, 1) := by decide +kernel
theorem dX12_holder_47 : decode cX12_holder 47 = .ok (.ireturn, 1) := by decide +kernel
theorem dX12_holder_48 : decode cX12_holder 48 = .ok (.iinc 3 1, 3) := by decide +kernel
theorem dX12_holder_51 : decode cX12_holder 51 = .ok (.goto (-25), 3) := by decide +kernel
theorem dX12_holder_54 : decode cX12_holder 54 = .ok (.iconst (-1), 1) := by decide +kernel
theorem dX12_holder_55 : decode cX12_holder 55 = .ok (.ireturn, 1) := by decide +kernel
