theorem dX12_changes_12 : decode cX12_changes 12 = .ok (.ior, 1) := by decide +kernel
theorem dX12_changes_13 : decode cX12_changes 13 = .ok (.iastore, 1) := by decide +kernel
theorem dX12_changes_14 : decode cX12_changes 14 = .ok (.return_, 1) := by decide +kernel
theorem dX12_cheapest_0 : decode cX12_cheapest 0 = .ok (.aload_n 0, 1) := by decide +kernel
theorem dX12_cheapest_1 : decode cX12_cheapest 1 = .ok (.iconst 0, 1) := by decide +kernel
theorem dX12_cheapest_2 : decode cX12_cheapest 2 = .ok (.putfield 1, 3) := by decide +kernel
theorem dX12_cheapest_5 : decode cX12_cheapest 5 = .ok (.aload_n 0, 1) := by decide +kernel
theorem dX12_cheapest_6 : decode cX12_cheapest 6 = .ok (.getfield 381, 3) := by decide +kernel
theorem dX12_cheapest_9 : decode cX12_cheapest 9 = .ok (.ifCond .eq 10, 3) := by decide +kernel
theorem dX12_cheapest_12 : decode cX12_cheapest 12 = .ok (.aload_n 0, 1) := by decide +kernel
theorem dX12_cheapest_13 : decode cX12_cheapest 13 = .ok (.getfield 385, 3) := by decide +kernel
theorem dX12_cheapest_16 : decode cX12_cheapest 16 = .ok (.goto 4, 3) := by decide +kernel
theorem dX12_cheapest_19 : decode cX12_cheapest 19 = .ok (.iconst (-1), 1) := by decide +kernel
theorem dX12_cheapest_20 : decode cX12_cheapest 20 = .ok (.ireturn, 1) := by decide +kernel
theorem dX12_code_0 : decode cX12_code 0 = .ok (.aload_n 0, 1) := by decide +kernel
theorem dX12_code_1 : decode cX12_code 1 = .ok (.getfield 40, 3) := by decide +kernel
theorem dX12_code_4 : decode cX12_code 4 = .ok (.iconst 3, 1) := by decide +kernel
theorem dX12_code_5 : decode cX12_code 5 = .ok (.aload_n 0, 1) := by decide +kernel
theorem dX12_code_6 : decode cX12_code 6 = .ok (.getfield 418, 3) := by decide +kernel
theorem dX12_code_9 : decode cX12_code 9 = .ok (.imul, 1) := by decide +kernel
theorem dX12_code_10 : decode cX12_code 10 = .ok (.iload_n 1, 1) := by decide +kernel
theorem dX12_code_11 : decode cX12_code 11 = .ok (.iastore, 1) := by decide +kernel
theorem dX12_code_12 : decode cX12_code 12 = .ok (.aload_n 0, 1) := by decide +kernel
theorem dX12_code_13 : decode cX12_code 13 = .ok (.getfield 40, 3) := by decide +kernel
theorem dX12_code_16 : decode cX12_code 16 = .ok (.iconst 3, 1) := by decide +kernel
theorem dX12_code_17 : decode cX12_code 17 = .ok (.aload_n 0, 1) := by decide +kernel
theorem dX12_code_18 : decode cX12_code 18 = .ok (.getfield 418, 3) := by decide +kernel
theorem dX12_code_21 : decode cX12_code 21 = .ok (.imul, 1) := by decide +kernel
theorem dX12_code_22 : decode cX12_code 22 = .ok (.iconst 1, 1) := by decide +kernel
theorem dX12_code_23 : decode cX12_code 23 = .ok (.iadd, 1) := by decide +kernel
theorem dX12_code_24 : decode cX12_code 24 = .ok (.iload_n 2, 1) := by decide +kernel
theorem dX12_code_25 : decode cX12_code 25 = .ok (.iastore, 1) := by decide +kernel
theorem dX12_code_26 : decode cX12_code 26 = .ok (.aload_n 0, 1) := by decide +kernel
theorem dX12_code_27 : decode cX12_code 27 = .ok (.getfield 40, 3) := by decide +kernel
theorem dX12_code_30 : decode cX12_code 30 = .ok (.iconst 3, 1) := by decide +kernel
theorem dX12_code_31 : decode cX12_code 31 = .ok (.aload_n 0, 1) := by decide +kernel
theorem dX12_code_32 : decode cX12_code 32 = .ok (.getfield 418, 3) := by decide +kernel
theorem dX12_code_35 : decode cX12_code 35 = .ok (.imul, 1) := by decide +kernel
theorem dX12_code_36 : decode cX12_code 36 = .ok (.iconst 2, 1) := by decide +kernel
theorem dX12_code_37 : decode cX12_code 37 = .ok (.iadd, 1) := by decide +kernel
theorem dX12_code_38 : decode cX12_code 38 = .ok (.iload_n 3, 1) := by decide +kernel
theorem dX12_code_39 : decode cX12_code 39 = .ok (.iastore, 1) := by decide +kernel
theorem dX12_code_40 : decode cX12_code 40 = .ok (.aload_n 0, 1) := by decide +kernel
theorem dX12_code_41 : decode cX12_code 41 = .ok (.dup, 1) := by decide +kernel
theorem dX12_code_42 : decode cX12_code 42 = .ok (.getfield 418, 3) := by decide +kernel
theorem dX12_code_45 : decode cX12_code 45 = .ok (.iconst 1, 1) := by decide +kernel
theorem dX12_code_46 : decode cX12_code 46 = .ok (.iadd, 1) := by decide +kernel
theorem dX12_code_47 : decode cX12_code 47 = .ok (.putfield 418, 3) := by decide +kernel
theorem dX12_code_50 : decode cX12_code 50 = .ok (.return_, 1) := by decide +kernel
theorem dX12_coinFor_0 : decode cX12_coinFor 0 = .ok (.aload_n 0, 1) := by decide +kernel
theorem dX12_coinFor_1 : decode cX12_coinFor 1 = .ok (.iload_n 2, 1) := by decide +kernel
theorem dX12_coinFor_2 : decode cX12_coinFor 2 = .ok (.invokevirtual 243, 3) := by decide +kernel
theorem dX12_coinFor_5 : decode cX12_coinFor 5 = .ok (.istore_n 3, 1) := by decide +kernel
theorem dX12_coinFor_6 : decode cX12_coinFor 6 = .ok (.iload_n 3, 1) := by decide +kernel
theorem dX12_coinFor_7 : decode cX12_coinFor 7 = .ok (.ifCond .ge 30, 3) := by decide +kernel
theorem dX12_coinFor_10 : decode cX12_coinFor 10 = .ok (.aload_n 0, 1) := by decide +kernel
theorem dX12_coinFor_11 : decode cX12_coinFor 11 = .ok (.getfield 33, 3) := by decide +kernel
theorem dX12_coinFor_14 : decode cX12_coinFor 14 = .ok (.sipush 148, 3) := by decide +kernel
theorem dX12_coinFor_17 : decode cX12_coinFor 17 = .ok (.iaload, 1) := by decide +kernel
theorem dX12_coinFor_18 : decode cX12_coinFor 18 = .ok (.iload_n 2, 1) := by decide +kernel
theorem dX12_coinFor_19 : decode cX12_coinFor 19 = .ok (.invokestatic 215, 3) := by decide +kernel
theorem dX12_coinFor_22 : decode cX12_coinFor 22 = .ok (.ifCond .eq 9, 3) := by decide +kernel
theorem dX12_coinFor_25 : decode cX12_coinFor 25 = .ok (.ldc_w 377, 3) := by decide +kernel
theorem dX12_coinFor_28 : decode cX12_coinFor 28 = .ok (.goto 8, 3) := by decide +kernel
theorem dX12_coinFor_31 : decode cX12_coinFor 31 = .ok (.aload_n 0, 1) := by decide +kernel
theorem dX12_coinFor_32 : decode cX12_coinFor 32 = .ok (.iload_n 2, 1) := by decide +kernel
theorem dX12_coinFor_33 : decode cX12_coinFor 33 = .ok (.invokevirtual 249, 3) := by decide +kernel
theorem dX12_coinFor_36 : decode cX12_coinFor 36 = .ok (.ireturn, 1) := by decide +kernel
theorem dX12_coinFor_37 : decode cX12_coinFor 37 = .ok (.aload_n 0, 1) := by decide +kernel
theorem dX12_coinFor_38 : decode cX12_coinFor 38 = .ok (.iload_n 1, 1) := by decide +kernel
theorem dX12_coinFor_39 : decode cX12_coinFor 39 = .ok (.invokevirtual 274, 3) := by decide +kernel
theorem dX12_coinFor_42 : decode cX12_coinFor 42 = .ok (.ifCond .ne 11, 3) := by decide +kernel
theorem dX12_coinFor_45 : decode cX12_coinFor 45 = .ok (.aload_n 0, 1) := by decide +kernel
theorem dX12_coinFor_46 : decode cX12_coinFor 46 = .ok (.iload_n 3, 1) := by decide +kernel
theorem dX12_coinFor_47 : decode cX12_coinFor 47 = .ok (.invokevirtual 274, 3) := by decide +kernel
theorem dX12_coinFor_50 : decode cX12_coinFor 50 = .ok (.ifCond .eq 9, 3) := by decide +kernel
theorem dX12_coinFor_53 : decode cX12_coinFor 53 = .ok (.ldc_w 377, 3) := by decide +kernel
theorem dX12_coinFor_56 : decode cX12_coinFor 56 = .ok (.goto 11, 3) := by decide +kernel
theorem dX12_coinFor_59 : decode cX12_coinFor 59 = .ok (.aload_n 0, 1) := by decide +kernel
theorem dX12_coinFor_60 : decode cX12_coinFor 60 = .ok (.getfield 33, 3) := by decide +kernel
theorem dX12_coinFor_63 : decode cX12_coinFor 63 = .ok (.iconst 2, 1) := by decide +kernel
theorem dX12_coinFor_64 : decode cX12_coinFor 64 = .ok (.iload_n 2, 1) := by decide +kernel
theorem dX12_coinFor_65 : decode cX12_coinFor 65 = .ok (.iadd, 1) := by decide +kernel
theorem dX12_coinFor_66 : decode cX12_coinFor 66 = .ok (.iaload, 1) := by decide +kernel
theorem dX12_coinFor_67 : decode cX12_coinFor 67 = .ok (.ireturn, 1) := by decide +kernel
theorem dX12_costOf_0 : decode cX12_costOf 0 = .ok (.aload_n 0, 1) := by decide +kernel
theorem dX12_costOf_1 : decode cX12_costOf 1 = .ok (.iload_n 1, 1) := by decide +kernel
theorem dX12_costOf_2 : decode cX12_costOf 2 = .ok (.invokevirtual 239, 3) := by decide +kernel
theorem dX12_costOf_5 : decode cX12_costOf 5 = .ok (.ifCond .le 16, 3) := by decide +kernel
theorem dX12_costOf_8 : decode cX12_costOf 8 = .ok (.aload_n 0, 1) := by decide +kernel
theorem dX12_costOf_9 : decode cX12_costOf 9 = .ok (.getfield 33, 3) := by decide +kernel
theorem dX12_costOf_12 : decode cX12_costOf 12 = .ok (.iconst 2, 1) := by decide +kernel
theorem dX12_costOf_13 : decode cX12_costOf 13 = .ok (.iload_n 1, 1) := by decide +kernel
theorem dX12_costOf_14 : decode cX12_costOf 14 = .ok (.iadd, 1) := by decide +kernel
theorem dX12_costOf_15 : decode cX12_costOf 15 = .ok (.iaload, 1) := by decide +kernel
theorem dX12_costOf_16 : decode cX12_costOf 16 = .ok (.iconst 2, 1) := by decide +kernel
theorem dX12_costOf_17 : decode cX12_costOf 17 = .ok (.idiv, 1) := by decide +kernel
theorem dX12_costOf_18 : decode cX12_costOf 18 = .ok (.goto 11, 3) := by decide +kernel
theorem dX12_costOf_21 : decode cX12_costOf 21 = .ok (.aload_n 0, 1) := by decide +kernel
theorem dX12_costOf_22 : decode cX12_costOf 22 = .ok (.getfield 33, 3) := by decide +kernel
theorem dX12_costOf_25 : decode cX12_costOf 25 = .ok (.iconst 2, 1) := by decide +kernel
theorem dX12_costOf_26 : decode cX12_costOf 26 = .ok (.iload_n 1, 1) := by decide +kernel
theorem dX12_costOf_27 : decode cX12_costOf 27 = .ok (.iadd, 1) := by decide +kernel
theorem dX12_costOf_28 : decode cX12_costOf 28 = .ok (.iaload, 1) := by decide +kernel
theorem dX12_costOf_29 : decode cX12_costOf 29 = .ok (.ireturn, 1) := by decide +kernel
theorem dX12_count_0 : decode cX12_count 0 = .ok (.aload_n 0, 1) := by decide +kernel
theorem dX12_count_1 : decode cX12_count 1 = .ok (.iconst 0, 1) := by decide +kernel
theorem dX12_count_2 : decode cX12_count 2 = .ok (.putfield 1, 3) := by decide +kernel
theorem dX12_count_5 : decode cX12_count 5 = .ok (.iload_n 1, 1) := by decide +kernel
theorem dX12_count_6 : decode cX12_count 6 = .ok (.iconst 2, 1) := by decide +kernel
theorem dX12_count_7 : decode cX12_count 7 = .ok (.if_icmp .ne 10, 3) := by decide +kernel
theorem dX12_count_10 : decode cX12_count 10 = .ok (.aload_n 0, 1) := by decide +kernel
theorem dX12_count_11 : decode cX12_count 11 = .ok (.getfield 7, 3) := by decide +kernel
theorem dX12_count_14 : decode cX12_count 14 = .ok (.goto 22, 3) := by decide +kernel
theorem dX12_count_17 : decode cX12_count 17 = .ok (.iload_n 1, 1) := by decide +kernel
theorem dX12_count_18 : decode cX12_count 18 = .ok (.iconst 0, 1) := by decide +kernel
theorem dX12_count_19 : decode cX12_count 19 = .ok (.iconst 1, 1) := by decide +kernel
theorem dX12_count_20 : decode cX12_count 20 = .ok (.invokestatic 177, 3) := by decide +kernel
theorem dX12_count_23 : decode cX12_count 23 = .ok (.ifCond .eq 12, 3) := by decide +kernel
theorem dX12_count_26 : decode cX12_count 26 = .ok (.aload_n 0, 1) := by decide +kernel
theorem dX12_count_27 : decode cX12_count 27 = .ok (.getfield 33, 3) := by decide +kernel
theorem dX12_count_30 : decode cX12_count 30 = .ok (.iload_n 1, 1) := by decide +kernel
theorem dX12_count_31 : decode cX12_count 31 = .ok (.iaload, 1) := by decide +kernel
theorem dX12_count_32 : decode cX12_count 32 = .ok (.goto 4, 3) := by decide +kernel
theorem dX12_count_35 : decode cX12_count 35 = .ok (.iconst (-1), 1) := by decide +kernel
theorem dX12_count_36 : decode cX12_count 36 = .ok (.ireturn, 1) := by decide +kernel
theorem dX12_die_0 : decode cX12_die 0 = .ok (.aload_n 0, 1) := by decide +kernel
theorem dX12_die_1 : decode cX12_die 1 = .ok (.iconst 0, 1) := by decide +kernel
theorem dX12_die_2 : decode cX12_die 2 = .ok (.putfield 1, 3) := by decide +kernel
theorem dX12_die_5 : decode cX12_die 5 = .ok (.aload_n 0, 1) := by decide +kernel
theorem dX12_die_6 : decode cX12_die 6 = .ok (.iload_n 1, 1) := by decide +kernel
theorem dX12_die_7 : decode cX12_die 7 = .ok (.invokevirtual 236, 3) := by decide +kernel
theorem dX12_die_10 : decode cX12_die 10 = .ok (.ifCond .eq 12, 3) := by decide +kernel
theorem dX12_die_13 : decode cX12_die 13 = .ok (.iload_n 2, 1) := by decide +kernel
theorem dX12_die_14 : decode cX12_die 14 = .ok (.iconst 0, 1) := by decide +kernel
theorem dX12_die_15 : decode cX12_die 15 = .ok (.iconst 1, 1) := by decide +kernel
theorem dX12_die_16 : decode cX12_die 16 = .ok (.invokestatic 177, 3) := by decide +kernel
theorem dX12_die_19 : decode cX12_die 19 = .ok (.ifCond .ne 5, 3) := by decide +kernel
theorem dX12_die_22 : decode cX12_die 22 = .ok (.iconst (-1), 1) := by decide +kernel
theorem dX12_die_23 : decode cX12_die 23 = .ok (.ireturn, 1) := by decide +kernel
theorem dX12_die_24 : decode cX12_die 24 = .ok (.aload_n 0, 1) := by decide +kernel
theorem dX12_die_25 : decode cX12_die 25 = .ok (.iload_n 1, 1) := by decide +kernel
theorem dX12_die_26 : decode cX12_die 26 = .ok (.invokevirtual 256, 3) := by decide +kernel
theorem dX12_die_29 : decode cX12_die 29 = .ok (.ifCond .eq 5, 3) := by decide +kernel
theorem dX12_die_32 : decode cX12_die 32 = .ok (.iconst 1, 1) := by decide +kernel
theorem dX12_die_33 : decode cX12_die 33 = .ok (.ireturn, 1) := by decide +kernel
theorem dX12_die_34 : decode cX12_die 34 = .ok (.aload_n 0, 1) := by decide +kernel
theorem dX12_die_35 : decode cX12_die 35 = .ok (.invokevirtual 280, 3) := by decide +kernel
theorem dX12_die_38 : decode cX12_die 38 = .ok (.aload_n 0, 1) := by decide +kernel
theorem dX12_die_39 : decode cX12_die 39 = .ok (.iload_n 1, 1) := by decide +kernel
theorem dX12_die_40 : decode cX12_die 40 = .ok (.iload_n 2, 1) := by decide +kernel
theorem dX12_die_41 : decode cX12_die 41 = .ok (.invokevirtual 302, 3) := by decide +kernel
theorem dX12_die_44 : decode cX12_die 44 = .ok (.iconst 0, 1) := by decide +kernel
theorem dX12_die_45 : decode cX12_die 45 = .ok (.ireturn, 1) := by decide +kernel
theorem dX12_dies_0 : decode cX12_dies 0 = .ok (.iload_n 2, 1) := by decide +kernel
theorem dX12_dies_1 : decode cX12_dies 1 = .ok (.iconst 1, 1) := by decide +kernel
theorem dX12_dies_2 : decode cX12_dies 2 = .ok (.if_icmp .ne 48, 3) := by decide +kernel
theorem dX12_dies_5 : decode cX12_dies 5 = .ok (.aload_n 0, 1) := by decide +kernel
theorem dX12_dies_6 : decode cX12_dies 6 = .ok (.getfield 33, 3) := by decide +kernel
theorem dX12_dies_9 : decode cX12_dies 9 = .ok (.sipush 161, 3) := by decide +kernel
theorem dX12_dies_12 : decode cX12_dies 12 = .ok (.iload_n 1, 1) := by decide +kernel
theorem dX12_dies_13 : decode cX12_dies 13 = .ok (.iadd, 1) := by decide +kernel
theorem dX12_dies_14 : decode cX12_dies 14 = .ok (.iaload, 1) := by decide +kernel
theorem dX12_dies_15 : decode cX12_dies 15 = .ok (.ifCond .le 35, 3) := by decide +kernel
theorem dX12_dies_18 : decode cX12_dies 18 = .ok (.aload_n 0, 1) := by decide +kernel
theorem dX12_dies_19 : decode cX12_dies 19 = .ok (.getfield 33, 3) := by decide +kernel
theorem dX12_dies_22 : decode cX12_dies 22 = .ok (.sipush 197, 3) := by decide +kernel
theorem dX12_dies_25 : decode cX12_dies 25 = .ok (.aload_n 0, 1) := by decide +kernel
theorem dX12_dies_26 : decode cX12_dies 26 = .ok (.getfield 33, 3) := by decide +kernel
theorem dX12_dies_29 : decode cX12_dies 29 = .ok (.sipush 161, 3) := by decide +kernel
theorem dX12_dies_32 : decode cX12_dies 32 = .ok (.iload_n 1, 1) := by decide +kernel
theorem dX12_dies_33 : decode cX12_dies 33 = .ok (.iadd, 1) := by decide +kernel
theorem dX12_dies_34 : decode cX12_dies 34 = .ok (.iaload, 1) := by decide +kernel
theorem dX12_dies_35 : decode cX12_dies 35 = .ok (.iadd, 1) := by decide +kernel
theorem dX12_dies_36 : decode cX12_dies 36 = .ok (.iconst 1, 1) := by decide +kernel
theorem dX12_dies_37 : decode cX12_dies 37 = .ok (.isub, 1) := by decide +kernel
theorem dX12_dies_38 : decode cX12_dies 38 = .ok (.aload_n 0, 1) := by decide +kernel
theorem dX12_dies_39 : decode cX12_dies 39 = .ok (.getfield 33, 3) := by decide +kernel
theorem dX12_dies_42 : decode cX12_dies 42 = .ok (.sipush 146, 3) := by decide +kernel
theorem dX12_dies_45 : decode cX12_dies 45 = .ok (.iaload, 1) := by decide +kernel
theorem dX12_dies_46 : decode cX12_dies 46 = .ok (.bipush 12, 2) := by decide +kernel
theorem dX12_dies_48 : decode cX12_dies 48 = .ok (.iadd, 1) := by decide +kernel
theorem dX12_dies_49 : decode cX12_dies 49 = .ok (.iastore, 1) := by decide +kernel
theorem dX12_dies_50 : decode cX12_dies 50 = .ok (.aload_n 0, 1) := by decide +kernel
theorem dX12_dies_51 : decode cX12_dies 51 = .ok (.getfield 33, 3) := by decide +kernel
theorem dX12_dies_54 : decode cX12_dies 54 = .ok (.sipush 161, 3) := by decide +kernel
theorem dX12_dies_57 : decode cX12_dies 57 = .ok (.iload_n 1, 1) := by decide +kernel
theorem dX12_dies_58 : decode cX12_dies 58 = .ok (.iadd, 1) := by decide +kernel
theorem dX12_dies_59 : decode cX12_dies 59 = .ok (.iconst 0, 1) := by decide +kernel
theorem dX12_dies_60 : decode cX12_dies 60 = .ok (.iastore, 1) := by decide +kernel
theorem dX12_dies_61 : decode cX12_dies 61 = .ok (.aload_n 0, 1) := by decide +kernel
theorem dX12_dies_62 : decode cX12_dies 62 = .ok (.iload_n 1, 1) := by decide +kernel
theorem dX12_dies_63 : decode cX12_dies 63 = .ok (.invokevirtual 268, 3) := by decide +kernel
theorem dX12_dies_66 : decode cX12_dies 66 = .ok (.aload_n 0, 1) := by decide +kernel
theorem dX12_dies_67 : decode cX12_dies 67 = .ok (.getfield 33, 3) := by decide +kernel
theorem dX12_dies_70 : decode cX12_dies 70 = .ok (.sipush 147, 3) := by decide +kernel
theorem dX12_dies_73 : decode cX12_dies 73 = .ok (.dup2, 1) := by decide +kernel
theorem dX12_dies_74 : decode cX12_dies 74 = .ok (.iaload, 1) := by decide +kernel
theorem dX12_dies_75 : decode cX12_dies 75 = .ok (.iconst 1, 1) := by decide +kernel
theorem dX12_dies_76 : decode cX12_dies 76 = .ok (.iload_n 1, 1) := by decide +kernel
theorem dX12_dies_77 : decode cX12_dies 77 = .ok (.ishl, 1) := by decide +kernel
theorem dX12_dies_78 : decode cX12_dies 78 = .ok (.ior, 1) := by decide +kernel
theorem dX12_dies_79 : decode cX12_dies 79 = .ok (.iastore, 1) := by decide +kernel
theorem dX12_dies_80 : decode cX12_dies 80 = .ok (.return_, 1) := by decide +kernel
theorem dX12_doesWish_0 : decode cX12_doesWish 0 = .ok (.aload_n 0, 1) := by decide +kernel
theorem dX12_doesWish_1 : decode cX12_doesWish 1 = .ok (.iload_n 1, 1) := by decide +kernel
theorem dX12_doesWish_2 : decode cX12_doesWish 2 = .ok (.invokevirtual 256, 3) := by decide +kernel
theorem dX12_doesWish_5 : decode cX12_doesWish 5 = .ok (.ifCond .ne 19, 3) := by decide +kernel
theorem dX12_doesWish_8 : decode cX12_doesWish 8 = .ok (.aload_n 0, 1) := by decide +kernel
theorem dX12_doesWish_9 : decode cX12_doesWish 9 = .ok (.getfield 33, 3) := by decide +kernel
theorem dX12_doesWish_12 : decode cX12_doesWish 12 = .ok (.bipush 47, 2) := by decide +kernel
theorem dX12_doesWish_14 : decode cX12_doesWish 14 = .ok (.iload_n 1, 1) := by decide +kernel
theorem dX12_doesWish_15 : decode cX12_doesWish 15 = .ok (.iadd, 1) := by decide +kernel
theorem dX12_doesWish_16 : decode cX12_doesWish 16 = .ok (.iaload, 1) := by decide +kernel
theorem dX12_doesWish_17 : decode cX12_doesWish 17 = .ok (.ifCond .le 7, 3) := by decide +kernel
theorem dX12_doesWish_20 : decode cX12_doesWish 20 = .ok (.iconst 1, 1) := by decide +kernel
theorem dX12_doesWish_21 : decode cX12_doesWish 21 = .ok (.goto 4, 3) := by decide +kernel
theorem dX12_doesWish_24 : decode cX12_doesWish 24 = .ok (.iconst 0, 1) := by decide +kernel
theorem dX12_doesWish_25 : decode cX12_doesWish 25 = .ok (.ireturn, 1) := by decide +kernel
theorem dX12_draw_0 : decode cX12_draw 0 = .ok (.aload_n 0, 1) := by decide +kernel
theorem dX12_draw_1 : decode cX12_draw 1 = .ok (.aload_n 0, 1) := by decide +kernel
theorem dX12_draw_2 : decode cX12_draw 2 = .ok (.getfield 317, 3) := by decide +kernel
theorem dX12_draw_5 : decode cX12_draw 5 = .ok (.ldc_w 388, 3) := by decide +kernel
theorem dX12_draw_8 : decode cX12_draw 8 = .ok (.imul, 1) := by decide +kernel
theorem dX12_draw_9 : decode cX12_draw 9 = .ok (.sipush 12345, 3) := by decide +kernel
theorem dX12_draw_12 : decode cX12_draw 12 = .ok (.iadd, 1) := by decide +kernel
theorem dX12_draw_13 : decode cX12_draw 13 = .ok (.putfield 317, 3) := by decide +kernel
theorem dX12_draw_16 : decode cX12_draw 16 = .ok (.aload_n 0, 1) := by decide +kernel
theorem dX12_draw_17 : decode cX12_draw 17 = .ok (.getfield 317, 3) := by decide +kernel
theorem dX12_draw_20 : decode cX12_draw 20 = .ok (.bipush 8, 2) := by decide +kernel
theorem dX12_draw_22 : decode cX12_draw 22 = .ok (.iushr, 1) := by decide +kernel
theorem dX12_draw_23 : decode cX12_draw 23 = .ok (.iload_n 1, 1) := by decide +kernel
theorem dX12_draw_24 : decode cX12_draw 24 = .ok (.irem, 1) := by decide +kernel
theorem dX12_draw_25 : decode cX12_draw 25 = .ok (.ireturn, 1) := by decide +kernel
theorem dX12_drawn_0 : decode cX12_drawn 0 = .ok (.aload_n 0, 1) := by decide +kernel
theorem dX12_drawn_1 : decode cX12_drawn 1 = .ok (.iconst 0, 1) := by decide +kernel
theorem dX12_drawn_2 : decode cX12_drawn 2 = .ok (.putfield 1, 3) := by decide +kernel
theorem dX12_drawn_5 : decode cX12_drawn 5 = .ok (.iload_n 1, 1) := by decide +kernel
theorem dX12_drawn_6 : decode cX12_drawn 6 = .ok (.iconst 1, 1) := by decide +kernel
theorem dX12_drawn_7 : decode cX12_drawn 7 = .ok (.bipush 60, 2) := by decide +kernel
theorem dX12_drawn_9 : decode cX12_drawn 9 = .ok (.invokestatic 177, 3) := by decide +kernel
theorem dX12_drawn_12 : decode cX12_drawn 12 = .ok (.ifCond .eq 21, 3) := by decide +kernel
theorem dX12_drawn_15 : decode cX12_drawn 15 = .ok (.aload_n 0, 1) := by decide +kernel
theorem dX12_drawn_16 : decode cX12_drawn 16 = .ok (.getfield 33, 3) := by decide +kernel
theorem dX12_drawn_19 : decode cX12_drawn 19 = .ok (.iconst 1, 1) := by decide +kernel
theorem dX12_drawn_20 : decode cX12_drawn 20 = .ok (.iaload, 1) := by decide +kernel
theorem dX12_drawn_21 : decode cX12_drawn 21 = .ok (.ifCond .eq 12, 3) := by decide +kernel
theorem dX12_drawn_24 : decode cX12_drawn 24 = .ok (.aload_n 0, 1) := by decide +kernel
theorem dX12_drawn_25 : decode cX12_drawn 25 = .ok (.getfield 33, 3) := by decide +kernel
theorem dX12_drawn_28 : decode cX12_drawn 28 = .ok (.iconst 0, 1) := by decide +kernel
theorem dX12_drawn_29 : decode cX12_drawn 29 = .ok (.iaload, 1) := by decide +kernel
theorem dX12_drawn_30 : decode cX12_drawn 30 = .ok (.ifCond .ne 5, 3) := by decide +kernel
theorem dX12_drawn_33 : decode cX12_drawn 33 = .ok (.iconst (-1), 1) := by decide +kernel
theorem dX12_drawn_34 : decode cX12_drawn 34 = .ok (.ireturn, 1) := by decide +kernel
theorem dX12_drawn_35 : decode cX12_drawn 35 = .ok (.aload_n 0, 1) := by decide +kernel
theorem dX12_drawn_36 : decode cX12_drawn 36 = .ok (.getfield 33, 3) := by decide +kernel
theorem dX12_drawn_39 : decode cX12_drawn 39 = .ok (.sipush 146, 3) := by decide +kernel
theorem dX12_drawn_42 : decode cX12_drawn 42 = .ok (.iaload, 1) := by decide +kernel
theorem dX12_drawn_43 : decode cX12_drawn 43 = .ok (.sipush 200, 3) := by decide +kernel
theorem dX12_drawn_46 : decode cX12_drawn 46 = .ok (.if_icmp .ge 7, 3) := by decide +kernel
theorem dX12_drawn_49 : decode cX12_drawn 49 = .ok (.aload_n 0, 1) := by decide +kernel
theorem dX12_drawn_50 : decode cX12_drawn 50 = .ok (.invokevirtual 280, 3) := by decide +kernel
theorem dX12_drawn_53 : decode cX12_drawn 53 = .ok (.aload_n 0, 1) := by decide +kernel
theorem dX12_drawn_54 : decode cX12_drawn 54 = .ok (.iload_n 1, 1) := by decide +kernel
theorem dX12_drawn_55 : decode cX12_drawn 55 = .ok (.iload_n 2, 1) := by decide +kernel
theorem dX12_drawn_56 : decode cX12_drawn 56 = .ok (.invokevirtual 392, 3) := by decide +kernel
theorem dX12_drawn_59 : decode cX12_drawn 59 = .ok (.ireturn, 1) := by decide +kernel
theorem dX12_draws_0 : decode cX12_draws 0 = .ok (.aload_n 0, 1) := by decide +kernel
theorem dX12_draws_1 : decode cX12_draws 1 = .ok (.bipush 8, 2) := by decide +kernel
theorem dX12_draws_3 : decode cX12_draws 3 = .ok (.invokevirtual 320, 3) := by decide +kernel
theorem dX12_draws_6 : decode cX12_draws 6 = .ok (.istore_n 2, 1) := by decide +kernel
theorem dX12_draws_7 : decode cX12_draws 7 = .ok (.iload_n 2, 1) := by decide +kernel
theorem dX12_draws_8 : decode cX12_draws 8 = .ok (.ifCond .ne 37, 3) := by decide +kernel
theorem dX12_draws_11 : decode cX12_draws 11 = .ok (.aload_n 0, 1) := by decide +kernel
theorem dX12_draws_12 : decode cX12_draws 12 = .ok (.aload_n 0, 1) := by decide +kernel
theorem dX12_draws_13 : decode cX12_draws 13 = .ok (.getfield 33, 3) := by decide +kernel
theorem dX12_draws_16 : decode cX12_draws 16 = .ok (.iconst 1, 1) := by decide +kernel
theorem dX12_draws_17 : decode cX12_draws 17 = .ok (.iaload, 1) := by decide +kernel
theorem dX12_draws_18 : decode cX12_draws 18 = .ok (.invokevirtual 320, 3) := by decide +kernel
theorem dX12_draws_21 : decode cX12_draws 21 = .ok (.istore_n 3, 1) := by decide +kernel
theorem dX12_draws_22 : decode cX12_draws 22 = .ok (.iload_n 3, 1) := by decide +kernel
theorem dX12_draws_23 : decode cX12_draws 23 = .ok (.iload_n 1, 1) := by decide +kernel
theorem dX12_draws_24 : decode cX12_draws 24 = .ok (.if_icmp .eq 18, 3) := by decide +kernel
theorem dX12_draws_27 : decode cX12_draws 27 = .ok (.aload_n 0, 1) := by decide +kernel
theorem dX12_draws_28 : decode cX12_draws 28 = .ok (.iload_n 1, 1) := by decide +kernel
theorem dX12_draws_29 : decode cX12_draws 29 = .ok (.iload_n 3, 1) := by decide +kernel
theorem dX12_draws_30 : decode cX12_draws 30 = .ok (.invokevirtual 290, 3) := by decide +kernel
theorem dX12_draws_33 : decode cX12_draws 33 = .ok (.ifCond .ne 9, 3) := by decide +kernel
theorem dX12_draws_36 : decode cX12_draws 36 = .ok (.aload_n 0, 1) := by decide +kernel
theorem dX12_draws_37 : decode cX12_draws 37 = .ok (.iload_n 1, 1) := by decide +kernel
theorem dX12_draws_38 : decode cX12_draws 38 = .ok (.iload_n 3, 1) := by decide +kernel
theorem dX12_draws_39 : decode cX12_draws 39 = .ok (.invokevirtual 293, 3) := by decide +kernel
theorem dX12_draws_42 : decode cX12_draws 42 = .ok (.goto 77, 3) := by decide +kernel
theorem dX12_draws_45 : decode cX12_draws 45 = .ok (.iload_n 2, 1) := by decide +kernel
theorem dX12_draws_46 : decode cX12_draws 46 = .ok (.iconst 1, 1) := by decide +kernel
theorem dX12_draws_47 : decode cX12_draws 47 = .ok (.if_icmp .ne 32, 3) := by decide +kernel
theorem dX12_draws_50 : decode cX12_draws 50 = .ok (.aload_n 0, 1) := by decide +kernel
theorem dX12_draws_51 : decode cX12_draws 51 = .ok (.aload_n 0, 1) := by decide +kernel
theorem dX12_draws_52 : decode cX12_draws 52 = .ok (.getfield 33, 3) := by decide +kernel
theorem dX12_draws_55 : decode cX12_draws 55 = .ok (.iconst 0, 1) := by decide +kernel
theorem dX12_draws_56 : decode cX12_draws 56 = .ok (.iaload, 1) := by decide +kernel
theorem dX12_draws_57 : decode cX12_draws 57 = .ok (.invokevirtual 320, 3) := by decide +kernel
theorem dX12_draws_60 : decode cX12_draws 60 = .ok (.istore_n 3, 1) := by decide +kernel
theorem dX12_draws_61 : decode cX12_draws 61 = .ok (.aload_n 0, 1) := by decide +kernel
theorem dX12_draws_62 : decode cX12_draws 62 = .ok (.iload_n 1, 1) := by decide +kernel
theorem dX12_draws_63 : decode cX12_draws 63 = .ok (.iload_n 3, 1) := by decide +kernel
theorem dX12_draws_64 : decode cX12_draws 64 = .ok (.invokevirtual 277, 3) := by decide +kernel
theorem dX12_draws_67 : decode cX12_draws 67 = .ok (.ifCond .ne 9, 3) := by decide +kernel
theorem dX12_draws_70 : decode cX12_draws 70 = .ok (.aload_n 0, 1) := by decide +kernel
theorem dX12_draws_71 : decode cX12_draws 71 = .ok (.iload_n 1, 1) := by decide +kernel
theorem dX12_draws_72 : decode cX12_draws 72 = .ok (.iload_n 3, 1) := by decide +kernel
theorem dX12_draws_73 : decode cX12_draws 73 = .ok (.invokevirtual 283, 3) := by decide +kernel
theorem dX12_draws_76 : decode cX12_draws 76 = .ok (.goto 43, 3) := by decide +kernel
theorem dX12_draws_79 : decode cX12_draws 79 = .ok (.iload_n 2, 1) := by decide +kernel
theorem dX12_draws_80 : decode cX12_draws 80 = .ok (.iconst 2, 1) := by decide +kernel
theorem dX12_draws_81 : decode cX12_draws 81 = .ok (.if_icmp .ne 19, 3) := by decide +kernel
theorem dX12_draws_84 : decode cX12_draws 84 = .ok (.aload_n 0, 1) := by decide +kernel
theorem dX12_draws_85 : decode cX12_draws 85 = .ok (.iload_n 1, 1) := by decide +kernel
theorem dX12_draws_86 : decode cX12_draws 86 = .ok (.invokevirtual 305, 3) := by decide +kernel
theorem dX12_draws_89 : decode cX12_draws 89 = .ok (.ifCond .ne 30, 3) := by decide +kernel
theorem dX12_draws_92 : decode cX12_draws 92 = .ok (.aload_n 0, 1) := by decide +kernel
theorem dX12_draws_93 : decode cX12_draws 93 = .ok (.iload_n 1, 1) := by decide +kernel
theorem dX12_draws_94 : decode cX12_draws 94 = .ok (.invokevirtual 308, 3) := by decide +kernel
theorem dX12_draws_97 : decode cX12_draws 97 = .ok (.goto 22, 3) := by decide +kernel
theorem dX12_draws_100 : decode cX12_draws 100 = .ok (.iload_n 2, 1) := by decide +kernel
theorem dX12_draws_101 : decode cX12_draws 101 = .ok (.iconst 3, 1) := by decide +kernel
theorem dX12_draws_102 : decode cX12_draws 102 = .ok (.if_icmp .ne 17, 3) := by decide +kernel
theorem dX12_draws_105 : decode cX12_draws 105 = .ok (.aload_n 0, 1) := by decide +kernel
theorem dX12_draws_106 : decode cX12_draws 106 = .ok (.iconst 5, 1) := by decide +kernel
theorem dX12_draws_107 : decode cX12_draws 107 = .ok (.invokevirtual 320, 3) := by decide +kernel
theorem dX12_draws_110 : decode cX12_draws 110 = .ok (.ifCond .ne 9, 3) := by decide +kernel
theorem dX12_draws_113 : decode cX12_draws 113 = .ok (.aload_n 0, 1) := by decide +kernel
theorem dX12_draws_114 : decode cX12_draws 114 = .ok (.iload_n 1, 1) := by decide +kernel
theorem dX12_draws_115 : decode cX12_draws 115 = .ok (.iconst 0, 1) := by decide +kernel
theorem dX12_draws_116 : decode cX12_draws 116 = .ok (.invokevirtual 302, 3) := by decide +kernel
theorem dX12_draws_119 : decode cX12_draws 119 = .ok (.return_, 1) := by decide +kernel
theorem dX12_end_0 : decode cX12_end 0 = .ok (.aload_n 0, 1) := by decide +kernel
theorem dX12_end_1 : decode cX12_end 1 = .ok (.iconst 0, 1) := by decide +kernel
theorem dX12_end_2 : decode cX12_end 2 = .ok (.putfield 1, 3) := by decide +kernel
theorem dX12_end_5 : decode cX12_end 5 = .ok (.iload_n 1, 1) := by decide +kernel
theorem dX12_end_6 : decode cX12_end 6 = .ok (.ifCond .lt 11, 3) := by decide +kernel
theorem dX12_end_9 : decode cX12_end 9 = .ok (.iload_n 1, 1) := by decide +kernel
theorem dX12_end_10 : decode cX12_end 10 = .ok (.aload_n 0, 1) := by decide +kernel
theorem dX12_end_11 : decode cX12_end 11 = .ok (.getfield 7, 3) := by decide +kernel
theorem dX12_end_14 : decode cX12_end 14 = .ok (.if_icmp .le 5, 3) := by decide +kernel
theorem dX12_end_17 : decode cX12_end 17 = .ok (.iconst 0, 1) := by decide +kernel
theorem dX12_end_18 : decode cX12_end 18 = .ok (.ireturn, 1) := by decide +kernel
theorem dX12_end_19 : decode cX12_end 19 = .ok (.aload_n 0, 1) := by decide +kernel
theorem dX12_end_20 : decode cX12_end 20 = .ok (.iload_n 1, 1) := by decide +kernel
theorem dX12_end_21 : decode cX12_end 21 = .ok (.putfield 7, 3) := by decide +kernel
theorem dX12_end_24 : decode cX12_end 24 = .ok (.iconst 1, 1) := by decide +kernel
theorem dX12_end_25 : decode cX12_end 25 = .ok (.ireturn, 1) := by decide +kernel
theorem dX12_endsOf_0 : decode cX12_endsOf 0 = .ok (.iconst 0, 1) := by decide +kernel
theorem dX12_endsOf_1 : decode cX12_endsOf 1 = .ok (.istore_n 3, 1) := by decide +kernel
theorem dX12_endsOf_2 : decode cX12_endsOf 2 = .ok (.iconst 0, 1) := by decide +kernel
theorem dX12_endsOf_3 : decode cX12_endsOf 3 = .ok (.istore 4, 2) := by decide +kernel
theorem dX12_endsOf_5 : decode cX12_endsOf 5 = .ok (.iload 4, 2) := by decide +kernel
theorem dX12_endsOf_7 : decode cX12_endsOf 7 = .ok (.aload_n 0, 1) := by decide +kernel
theorem dX12_endsOf_8 : decode cX12_endsOf 8 = .ok (.getfield 33, 3) := by decide +kernel
theorem dX12_endsOf_11 : decode cX12_endsOf 11 = .ok (.sipush 146, 3) := by decide +kernel
theorem dX12_endsOf_14 : decode cX12_endsOf 14 = .ok (.iaload, 1) := by decide +kernel
theorem dX12_endsOf_15 : decode cX12_endsOf 15 = .ok (.if_icmp .ge 28, 3) := by decide +kernel
theorem dX12_endsOf_18 : decode cX12_endsOf 18 = .ok (.iload_n 3, 1) := by decide +kernel
theorem dX12_endsOf_19 : decode cX12_endsOf 19 = .ok (.aload_n 0, 1) := by decide +kernel
theorem dX12_endsOf_20 : decode cX12_endsOf 20 = .ok (.iload_n 1, 1) := by decide +kernel
theorem dX12_endsOf_21 : decode cX12_endsOf 21 = .ok (.iload 4, 2) := by decide +kernel
theorem dX12_endsOf_23 : decode cX12_endsOf 23 = .ok (.invokevirtual 332, 3) := by decide +kernel
theorem dX12_endsOf_26 : decode cX12_endsOf 26 = .ok (.iload_n 2, 1) := by decide +kernel
theorem dX12_endsOf_27 : decode cX12_endsOf 27 = .ok (.if_icmp .ne 7, 3) := by decide +kernel
theorem dX12_endsOf_30 : decode cX12_endsOf 30 = .ok (.iconst 1, 1) := by decide +kernel
theorem dX12_endsOf_31 : decode cX12_endsOf 31 = .ok (.goto 4, 3) := by decide +kernel
theorem dX12_endsOf_34 : decode cX12_endsOf 34 = .ok (.iconst 0, 1) := by decide +kernel
theorem dX12_endsOf_35 : decode cX12_endsOf 35 = .ok (.iadd, 1) := by decide +kernel
theorem dX12_endsOf_36 : decode cX12_endsOf 36 = .ok (.istore_n 3, 1) := by decide +kernel
theorem dX12_endsOf_37 : decode cX12_endsOf 37 = .ok (.iinc 4 1, 3) := by decide +kernel
theorem dX12_endsOf_40 : decode cX12_endsOf 40 = .ok (.goto (-35), 3) := by decide +kernel
theorem dX12_endsOf_43 : decode cX12_endsOf 43 = .ok (.iload_n 3, 1) := by decide +kernel
theorem dX12_endsOf_44 : decode cX12_endsOf 44 = .ok (.ireturn, 1) := by decide +kernel
theorem dX12_fault_0 : decode cX12_fault 0 = .ok (.aload_n 0, 1) := by decide +kernel
theorem dX12_fault_1 : decode cX12_fault 1 = .ok (.iconst 0, 1) := by decide +kernel
theorem dX12_fault_2 : decode cX12_fault 2 = .ok (.putfield 1, 3) := by decide +kernel
theorem dX12_fault_5 : decode cX12_fault 5 = .ok (.aload_n 0, 1) := by decide +kernel
theorem dX12_fault_6 : decode cX12_fault 6 = .ok (.getfield 162, 3) := by decide +kernel
theorem dX12_fault_9 : decode cX12_fault 9 = .ok (.ireturn, 1) := by decide +kernel
theorem dX12_feasts_0 : decode cX12_feasts 0 = .ok (.aload_n 0, 1) := by decide +kernel
theorem dX12_feasts_1 : decode cX12_feasts 1 = .ok (.iconst 0, 1) := by decide +kernel
theorem dX12_feasts_2 : decode cX12_feasts 2 = .ok (.putfield 1, 3) := by decide +kernel
theorem dX12_feasts_5 : decode cX12_feasts 5 = .ok (.aload_n 0, 1) := by decide +kernel
theorem dX12_feasts_6 : decode cX12_feasts 6 = .ok (.iload_n 1, 1) := by decide +kernel
theorem dX12_feasts_7 : decode cX12_feasts 7 = .ok (.invokevirtual 246, 3) := by decide +kernel
theorem dX12_feasts_10 : decode cX12_feasts 10 = .ok (.ifCond .eq 13, 3) := by decide +kernel
theorem dX12_feasts_13 : decode cX12_feasts 13 = .ok (.iload_n 2, 1) := by decide +kernel
theorem dX12_feasts_14 : decode cX12_feasts 14 = .ok (.iconst 1, 1) := by decide +kernel
theorem dX12_feasts_15 : decode cX12_feasts 15 = .ok (.bipush 99, 2) := by decide +kernel
theorem dX12_feasts_17 : decode cX12_feasts 17 = .ok (.invokestatic 177, 3) := by decide +kernel
theorem dX12_feasts_20 : decode cX12_feasts 20 = .ok (.ifCond .ne 5, 3) := by decide +kernel
theorem dX12_feasts_23 : decode cX12_feasts 23 = .ok (.iconst (-1), 1) := by decide +kernel
theorem dX12_feasts_24 : decode cX12_feasts 24 = .ok (.ireturn, 1) := by decide +kernel
theorem dX12_feasts_25 : decode cX12_feasts 25 = .ok (.iconst 0, 1) := by decide +kernel
theorem dX12_feasts_26 : decode cX12_feasts 26 = .ok (.istore_n 3, 1) := by decide +kernel
