theorem dX6_isWord_5 : decode cX6_isWord 5 = .ok (.iload 4, 2) := by decide +kernel
theorem dX6_isWord_7 : decode cX6_isWord 7 = .ok (.aload_n 1, 1) := by decide +kernel
theorem dX6_isWord_8 : decode cX6_isWord 8 = .ok (.invokevirtual 29, 3) := by decide +kernel
theorem dX6_isWord_11 : decode cX6_isWord 11 = .ok (.if_icmp .ge 22, 3) := by decide +kernel
theorem dX6_isWord_14 : decode cX6_isWord 14 = .ok (.lload_n 2, 1) := by decide +kernel
theorem dX6_isWord_15 : decode cX6_isWord 15 = .ok (.bipush 8, 2) := by decide +kernel
theorem dX6_isWord_17 : decode cX6_isWord 17 = .ok (.lshl, 1) := by decide +kernel
theorem dX6_isWord_18 : decode cX6_isWord 18 = .ok (.aload_n 1, 1) := by decide +kernel
theorem dX6_isWord_19 : decode cX6_isWord 19 = .ok (.iload 4, 2) := by decide +kernel
theorem dX6_isWord_21 : decode cX6_isWord 21 = .ok (.invokevirtual 39, 3) := by decide +kernel
theorem dX6_isWord_24 : decode cX6_isWord 24 = .ok (.i2l, 1) := by decide +kernel
theorem dX6_isWord_25 : decode cX6_isWord 25 = .ok (.lor, 1) := by decide +kernel
theorem dX6_isWord_26 : decode cX6_isWord 26 = .ok (.lstore_n 2, 1) := by decide +kernel
theorem dX6_isWord_27 : decode cX6_isWord 27 = .ok (.iinc 4 1, 3) := by decide +kernel
theorem dX6_isWord_30 : decode cX6_isWord 30 = .ok (.goto (-25), 3) := by decide +kernel
theorem dX6_isWord_33 : decode cX6_isWord 33 = .ok (.aload_n 0, 1) := by decide +kernel
theorem dX6_isWord_34 : decode cX6_isWord 34 = .ok (.getfield 60, 3) := by decide +kernel
theorem dX6_isWord_37 : decode cX6_isWord 37 = .ok (.iconst 1, 1) := by decide +kernel
theorem dX6_isWord_38 : decode cX6_isWord 38 = .ok (.if_icmp .ne 16, 3) := by decide +kernel
theorem dX6_isWord_41 : decode cX6_isWord 41 = .ok (.lload_n 2, 1) := by decide +kernel
theorem dX6_isWord_42 : decode cX6_isWord 42 = .ok (.aload_n 0, 1) := by decide +kernel
theorem dX6_isWord_43 : decode cX6_isWord 43 = .ok (.getfield 69, 3) := by decide +kernel
theorem dX6_isWord_46 : decode cX6_isWord 46 = .ok (.lcmp, 1) := by decide +kernel
theorem dX6_isWord_47 : decode cX6_isWord 47 = .ok (.ifCond .ne 7, 3) := by decide +kernel
theorem dX6_isWord_50 : decode cX6_isWord 50 = .ok (.iconst 1, 1) := by decide +kernel
theorem dX6_isWord_51 : decode cX6_isWord 51 = .ok (.goto 4, 3) := by decide +kernel
theorem dX6_isWord_54 : decode cX6_isWord 54 = .ok (.iconst 0, 1) := by decide +kernel
theorem dX6_isWord_55 : decode cX6_isWord 55 = .ok (.ireturn, 1) := by decide +kernel
theorem dX6_keepOwn_0 : decode cX6_keepOwn 0 = .ok (.lconst 0, 1) := by decide +kernel
theorem dX6_keepOwn_1 : decode cX6_keepOwn 1 = .ok (.lstore_n 2, 1) := by decide +kernel
theorem dX6_keepOwn_2 : decode cX6_keepOwn 2 = .ok (.iconst 0, 1) := by decide +kernel
theorem dX6_keepOwn_3 : decode cX6_keepOwn 3 = .ok (.istore 4, 2) := by decide +kernel
theorem dX6_keepOwn_5 : decode cX6_keepOwn 5 = .ok (.iload 4, 2) := by decide +kernel
theorem dX6_keepOwn_7 : decode cX6_keepOwn 7 = .ok (.aload_n 1, 1) := by decide +kernel
theorem dX6_keepOwn_8 : decode cX6_keepOwn 8 = .ok (.invokevirtual 29, 3) := by decide +kernel
theorem dX6_keepOwn_11 : decode cX6_keepOwn 11 = .ok (.if_icmp .ge 67, 3) := by decide +kernel
theorem dX6_keepOwn_14 : decode cX6_keepOwn 14 = .ok (.aload_n 0, 1) := by decide +kernel
theorem dX6_keepOwn_15 : decode cX6_keepOwn 15 = .ok (.getfield 35, 3) := by decide +kernel
theorem dX6_keepOwn_18 : decode cX6_keepOwn 18 = .ok (.bipush 27, 2) := by decide +kernel
theorem dX6_keepOwn_20 : decode cX6_keepOwn 20 = .ok (.if_icmp .ge 58, 3) := by decide +kernel
theorem dX6_keepOwn_23 : decode cX6_keepOwn 23 = .ok (.aload_n 1, 1) := by decide +kernel
theorem dX6_keepOwn_24 : decode cX6_keepOwn 24 = .ok (.iload 4, 2) := by decide +kernel
theorem dX6_keepOwn_26 : decode cX6_keepOwn 26 = .ok (.invokevirtual 39, 3) := by decide +kernel
theorem dX6_keepOwn_29 : decode cX6_keepOwn 29 = .ok (.bipush 32, 2) := by decide +kernel
theorem dX6_keepOwn_31 : decode cX6_keepOwn 31 = .ok (.if_icmp .ne 28, 3) := by decide +kernel
theorem dX6_keepOwn_34 : decode cX6_keepOwn 34 = .ok (.aload_n 0, 1) := by decide +kernel
theorem dX6_keepOwn_35 : decode cX6_keepOwn 35 = .ok (.getfield 15, 3) := by decide +kernel
theorem dX6_keepOwn_38 : decode cX6_keepOwn 38 = .ok (.aload_n 0, 1) := by decide +kernel
theorem dX6_keepOwn_39 : decode cX6_keepOwn 39 = .ok (.getfield 35, 3) := by decide +kernel
theorem dX6_keepOwn_42 : decode cX6_keepOwn 42 = .ok (.lload_n 2, 1) := by decide +kernel
theorem dX6_keepOwn_43 : decode cX6_keepOwn 43 = .ok (.lastore, 1) := by decide +kernel
theorem dX6_keepOwn_44 : decode cX6_keepOwn 44 = .ok (.aload_n 0, 1) := by decide +kernel
theorem dX6_keepOwn_45 : decode cX6_keepOwn 45 = .ok (.dup, 1) := by decide +kernel
theorem dX6_keepOwn_46 : decode cX6_keepOwn 46 = .ok (.getfield 35, 3) := by decide +kernel
theorem dX6_keepOwn_49 : decode cX6_keepOwn 49 = .ok (.iconst 1, 1) := by decide +kernel
theorem dX6_keepOwn_50 : decode cX6_keepOwn 50 = .ok (.iadd, 1) := by decide +kernel
theorem dX6_keepOwn_51 : decode cX6_keepOwn 51 = .ok (.putfield 35, 3) := by decide +kernel
theorem dX6_keepOwn_54 : decode cX6_keepOwn 54 = .ok (.lconst 0, 1) := by decide +kernel
theorem dX6_keepOwn_55 : decode cX6_keepOwn 55 = .ok (.lstore_n 2, 1) := by decide +kernel
theorem dX6_keepOwn_56 : decode cX6_keepOwn 56 = .ok (.goto 16, 3) := by decide +kernel
theorem dX6_keepOwn_59 : decode cX6_keepOwn 59 = .ok (.lload_n 2, 1) := by decide +kernel
theorem dX6_keepOwn_60 : decode cX6_keepOwn 60 = .ok (.bipush 8, 2) := by decide +kernel
theorem dX6_keepOwn_62 : decode cX6_keepOwn 62 = .ok (.lshl, 1) := by decide +kernel
theorem dX6_keepOwn_63 : decode cX6_keepOwn 63 = .ok (.aload_n 1, 1) := by decide +kernel
theorem dX6_keepOwn_64 : decode cX6_keepOwn 64 = .ok (.iload 4, 2) := by decide +kernel
theorem dX6_keepOwn_66 : decode cX6_keepOwn 66 = .ok (.invokevirtual 39, 3) := by decide +kernel
theorem dX6_keepOwn_69 : decode cX6_keepOwn 69 = .ok (.i2l, 1) := by decide +kernel
theorem dX6_keepOwn_70 : decode cX6_keepOwn 70 = .ok (.lor, 1) := by decide +kernel
theorem dX6_keepOwn_71 : decode cX6_keepOwn 71 = .ok (.lstore_n 2, 1) := by decide +kernel
theorem dX6_keepOwn_72 : decode cX6_keepOwn 72 = .ok (.iinc 4 1, 3) := by decide +kernel
theorem dX6_keepOwn_75 : decode cX6_keepOwn 75 = .ok (.goto (-70), 3) := by decide +kernel
theorem dX6_keepOwn_78 : decode cX6_keepOwn 78 = .ok (.return_, 1) := by decide +kernel
theorem dX6_pass_0 : decode cX6_pass 0 = .ok (.aload_n 0, 1) := by decide +kernel
theorem dX6_pass_1 : decode cX6_pass 1 = .ok (.invokevirtual 57, 3) := by decide +kernel
theorem dX6_pass_4 : decode cX6_pass 4 = .ok (.iconst 1, 1) := by decide +kernel
theorem dX6_pass_5 : decode cX6_pass 5 = .ok (.ireturn, 1) := by decide +kernel
theorem dX6_passKnown_0 : decode cX6_passKnown 0 = .ok (.aload_n 0, 1) := by decide +kernel
theorem dX6_passKnown_1 : decode cX6_passKnown 1 = .ok (.invokevirtual 91, 3) := by decide +kernel
theorem dX6_passKnown_4 : decode cX6_passKnown 4 = .ok (.ifCond .ne 9, 3) := by decide +kernel
theorem dX6_passKnown_7 : decode cX6_passKnown 7 = .ok (.aload_n 0, 1) := by decide +kernel
theorem dX6_passKnown_8 : decode cX6_passKnown 8 = .ok (.iconst 1, 1) := by decide +kernel
theorem dX6_passKnown_9 : decode cX6_passKnown 9 = .ok (.invokevirtual 84, 3) := by decide +kernel
theorem dX6_passKnown_12 : decode cX6_passKnown 12 = .ok (.ireturn, 1) := by decide +kernel
theorem dX6_passKnown_13 : decode cX6_passKnown 13 = .ok (.iload_n 1, 1) := by decide +kernel
theorem dX6_passKnown_14 : decode cX6_passKnown 14 = .ok (.iconst (-1), 1) := by decide +kernel
theorem dX6_passKnown_15 : decode cX6_passKnown 15 = .ok (.if_icmp .ne 9, 3) := by decide +kernel
theorem dX6_passKnown_18 : decode cX6_passKnown 18 = .ok (.aload_n 0, 1) := by decide +kernel
theorem dX6_passKnown_19 : decode cX6_passKnown 19 = .ok (.iconst 3, 1) := by decide +kernel
theorem dX6_passKnown_20 : decode cX6_passKnown 20 = .ok (.invokevirtual 84, 3) := by decide +kernel
theorem dX6_passKnown_23 : decode cX6_passKnown 23 = .ok (.ireturn, 1) := by decide +kernel
theorem dX6_passKnown_24 : decode cX6_passKnown 24 = .ok (.aload_n 0, 1) := by decide +kernel
theorem dX6_passKnown_25 : decode cX6_passKnown 25 = .ok (.iload_n 1, 1) := by decide +kernel
theorem dX6_passKnown_26 : decode cX6_passKnown 26 = .ok (.putfield 88, 3) := by decide +kernel
theorem dX6_passKnown_29 : decode cX6_passKnown 29 = .ok (.aload_n 0, 1) := by decide +kernel
theorem dX6_passKnown_30 : decode cX6_passKnown 30 = .ok (.invokevirtual 57, 3) := by decide +kernel
theorem dX6_passKnown_33 : decode cX6_passKnown 33 = .ok (.iconst 1, 1) := by decide +kernel
theorem dX6_passKnown_34 : decode cX6_passKnown 34 = .ok (.ireturn, 1) := by decide +kernel
theorem dX6_passNumber_0 : decode cX6_passNumber 0 = .ok (.aload_n 0, 1) := by decide +kernel
theorem dX6_passNumber_1 : decode cX6_passNumber 1 = .ok (.getfield 60, 3) := by decide +kernel
theorem dX6_passNumber_4 : decode cX6_passNumber 4 = .ok (.iconst 2, 1) := by decide +kernel
theorem dX6_passNumber_5 : decode cX6_passNumber 5 = .ok (.if_icmp .eq 9, 3) := by decide +kernel
theorem dX6_passNumber_8 : decode cX6_passNumber 8 = .ok (.aload_n 0, 1) := by decide +kernel
theorem dX6_passNumber_9 : decode cX6_passNumber 9 = .ok (.iconst 1, 1) := by decide +kernel
theorem dX6_passNumber_10 : decode cX6_passNumber 10 = .ok (.invokevirtual 84, 3) := by decide +kernel
theorem dX6_passNumber_13 : decode cX6_passNumber 13 = .ok (.ireturn, 1) := by decide +kernel
theorem dX6_passNumber_14 : decode cX6_passNumber 14 = .ok (.aload_n 0, 1) := by decide +kernel
theorem dX6_passNumber_15 : decode cX6_passNumber 15 = .ok (.getfield 73, 3) := by decide +kernel
theorem dX6_passNumber_18 : decode cX6_passNumber 18 = .ok (.iload_n 1, 1) := by decide +kernel
theorem dX6_passNumber_19 : decode cX6_passNumber 19 = .ok (.if_icmp .lt 11, 3) := by decide +kernel
theorem dX6_passNumber_22 : decode cX6_passNumber 22 = .ok (.aload_n 0, 1) := by decide +kernel
theorem dX6_passNumber_23 : decode cX6_passNumber 23 = .ok (.getfield 73, 3) := by decide +kernel
theorem dX6_passNumber_26 : decode cX6_passNumber 26 = .ok (.iload_n 2, 1) := by decide +kernel
theorem dX6_passNumber_27 : decode cX6_passNumber 27 = .ok (.if_icmp .le 9, 3) := by decide +kernel
theorem dX6_passNumber_30 : decode cX6_passNumber 30 = .ok (.aload_n 0, 1) := by decide +kernel
theorem dX6_passNumber_31 : decode cX6_passNumber 31 = .ok (.iconst 2, 1) := by decide +kernel
theorem dX6_passNumber_32 : decode cX6_passNumber 32 = .ok (.invokevirtual 84, 3) := by decide +kernel
theorem dX6_passNumber_35 : decode cX6_passNumber 35 = .ok (.ireturn, 1) := by decide +kernel
theorem dX6_passNumber_36 : decode cX6_passNumber 36 = .ok (.aload_n 0, 1) := by decide +kernel
theorem dX6_passNumber_37 : decode cX6_passNumber 37 = .ok (.aload_n 0, 1) := by decide +kernel
theorem dX6_passNumber_38 : decode cX6_passNumber 38 = .ok (.getfield 73, 3) := by decide +kernel
theorem dX6_passNumber_41 : decode cX6_passNumber 41 = .ok (.putfield 88, 3) := by decide +kernel
theorem dX6_passNumber_44 : decode cX6_passNumber 44 = .ok (.aload_n 0, 1) := by decide +kernel
theorem dX6_passNumber_45 : decode cX6_passNumber 45 = .ok (.invokevirtual 57, 3) := by decide +kernel
theorem dX6_passNumber_48 : decode cX6_passNumber 48 = .ok (.iconst 1, 1) := by decide +kernel
theorem dX6_passNumber_49 : decode cX6_passNumber 49 = .ok (.ireturn, 1) := by decide +kernel
theorem dX6_passSign_0 : decode cX6_passSign 0 = .ok (.aload_n 0, 1) := by decide +kernel
theorem dX6_passSign_1 : decode cX6_passSign 1 = .ok (.iload_n 1, 1) := by decide +kernel
theorem dX6_passSign_2 : decode cX6_passSign 2 = .ok (.invokevirtual 76, 3) := by decide +kernel
theorem dX6_passSign_5 : decode cX6_passSign 5 = .ok (.ifCond .eq 10, 3) := by decide +kernel
theorem dX6_passSign_8 : decode cX6_passSign 8 = .ok (.aload_n 0, 1) := by decide +kernel
theorem dX6_passSign_9 : decode cX6_passSign 9 = .ok (.invokevirtual 80, 3) := by decide +kernel
theorem dX6_passSign_12 : decode cX6_passSign 12 = .ok (.goto 8, 3) := by decide +kernel
theorem dX6_passSign_15 : decode cX6_passSign 15 = .ok (.aload_n 0, 1) := by decide +kernel
theorem dX6_passSign_16 : decode cX6_passSign 16 = .ok (.iconst 1, 1) := by decide +kernel
theorem dX6_passSign_17 : decode cX6_passSign 17 = .ok (.invokevirtual 84, 3) := by decide +kernel
theorem dX6_passSign_20 : decode cX6_passSign 20 = .ok (.ireturn, 1) := by decide +kernel
theorem dX6_put_0 : decode cX6_put 0 = .ok (.bipush 24, 2) := by decide +kernel
theorem dX6_put_2 : decode cX6_put 2 = .ok (.istore_n 2, 1) := by decide +kernel
theorem dX6_put_3 : decode cX6_put 3 = .ok (.iload_n 2, 1) := by decide +kernel
theorem dX6_put_4 : decode cX6_put 4 = .ok (.ifCond .lt 42, 3) := by decide +kernel
theorem dX6_put_7 : decode cX6_put 7 = .ok (.aload_n 0, 1) := by decide +kernel
theorem dX6_put_8 : decode cX6_put 8 = .ok (.getfield 43, 3) := by decide +kernel
theorem dX6_put_11 : decode cX6_put 11 = .ok (.sipush 940, 3) := by decide +kernel
theorem dX6_put_14 : decode cX6_put 14 = .ok (.if_icmp .ge 32, 3) := by decide +kernel
theorem dX6_put_17 : decode cX6_put 17 = .ok (.aload_n 0, 1) := by decide +kernel
theorem dX6_put_18 : decode cX6_put 18 = .ok (.getfield 11, 3) := by decide +kernel
theorem dX6_put_21 : decode cX6_put 21 = .ok (.aload_n 0, 1) := by decide +kernel
theorem dX6_put_22 : decode cX6_put 22 = .ok (.getfield 43, 3) := by decide +kernel
theorem dX6_put_25 : decode cX6_put 25 = .ok (.iload_n 1, 1) := by decide +kernel
theorem dX6_put_26 : decode cX6_put 26 = .ok (.iload_n 2, 1) := by decide +kernel
theorem dX6_put_27 : decode cX6_put 27 = .ok (.iushr, 1) := by decide +kernel
theorem dX6_put_28 : decode cX6_put 28 = .ok (.i2b, 1) := by decide +kernel
theorem dX6_put_29 : decode cX6_put 29 = .ok (.bastore, 1) := by decide +kernel
theorem dX6_put_30 : decode cX6_put 30 = .ok (.aload_n 0, 1) := by decide +kernel
theorem dX6_put_31 : decode cX6_put 31 = .ok (.dup, 1) := by decide +kernel
theorem dX6_put_32 : decode cX6_put 32 = .ok (.getfield 43, 3) := by decide +kernel
theorem dX6_put_35 : decode cX6_put 35 = .ok (.iconst 1, 1) := by decide +kernel
theorem dX6_put_36 : decode cX6_put 36 = .ok (.iadd, 1) := by decide +kernel
theorem dX6_put_37 : decode cX6_put 37 = .ok (.putfield 43, 3) := by decide +kernel
theorem dX6_put_40 : decode cX6_put 40 = .ok (.iinc 2 (-8), 3) := by decide +kernel
theorem dX6_put_43 : decode cX6_put 43 = .ok (.goto (-40), 3) := by decide +kernel
theorem dX6_put_46 : decode cX6_put 46 = .ok (.return_, 1) := by decide +kernel
theorem dX6_startText_0 : decode cX6_startText 0 = .ok (.aload_n 0, 1) := by decide +kernel
theorem dX6_startText_1 : decode cX6_startText 1 = .ok (.iload_n 1, 1) := by decide +kernel
theorem dX6_startText_2 : decode cX6_startText 2 = .ok (.putfield 45, 3) := by decide +kernel
theorem dX6_startText_5 : decode cX6_startText 5 = .ok (.aload_n 0, 1) := by decide +kernel
theorem dX6_startText_6 : decode cX6_startText 6 = .ok (.iconst 0, 1) := by decide +kernel
theorem dX6_startText_7 : decode cX6_startText 7 = .ok (.putfield 48, 3) := by decide +kernel
theorem dX6_startText_10 : decode cX6_startText 10 = .ok (.aload_n 0, 1) := by decide +kernel
theorem dX6_startText_11 : decode cX6_startText 11 = .ok (.iconst 0, 1) := by decide +kernel
theorem dX6_startText_12 : decode cX6_startText 12 = .ok (.putfield 51, 3) := by decide +kernel
theorem dX6_startText_15 : decode cX6_startText 15 = .ok (.aload_n 0, 1) := by decide +kernel
theorem dX6_startText_16 : decode cX6_startText 16 = .ok (.iconst 0, 1) := by decide +kernel
theorem dX6_startText_17 : decode cX6_startText 17 = .ok (.putfield 54, 3) := by decide +kernel
theorem dX6_startText_20 : decode cX6_startText 20 = .ok (.aload_n 0, 1) := by decide +kernel
theorem dX6_startText_21 : decode cX6_startText 21 = .ok (.invokevirtual 57, 3) := by decide +kernel
theorem dX6_startText_24 : decode cX6_startText 24 = .ok (.return_, 1) := by decide +kernel
theorem dX7_addName_0 : decode cX7_addName 0 = .ok (.aload_n 0, 1) := by decide +kernel
theorem dX7_addName_1 : decode cX7_addName 1 = .ok (.getfield 43, 3) := by decide +kernel
theorem dX7_addName_4 : decode cX7_addName 4 = .ok (.bipush 9, 2) := by decide +kernel
theorem dX7_addName_6 : decode cX7_addName 6 = .ok (.if_icmp .ge 53, 3) := by decide +kernel
theorem dX7_addName_9 : decode cX7_addName 9 = .ok (.aload_n 0, 1) := by decide +kernel
theorem dX7_addName_10 : decode cX7_addName 10 = .ok (.getfield 9, 3) := by decide +kernel
theorem dX7_addName_13 : decode cX7_addName 13 = .ok (.aload_n 0, 1) := by decide +kernel
theorem dX7_addName_14 : decode cX7_addName 14 = .ok (.getfield 43, 3) := by decide +kernel
theorem dX7_addName_17 : decode cX7_addName 17 = .ok (.lload_n 1, 1) := by decide +kernel
theorem dX7_addName_18 : decode cX7_addName 18 = .ok (.lastore, 1) := by decide +kernel
theorem dX7_addName_19 : decode cX7_addName 19 = .ok (.aload_n 0, 1) := by decide +kernel
theorem dX7_addName_20 : decode cX7_addName 20 = .ok (.getfield 15, 3) := by decide +kernel
theorem dX7_addName_23 : decode cX7_addName 23 = .ok (.aload_n 0, 1) := by decide +kernel
theorem dX7_addName_24 : decode cX7_addName 24 = .ok (.getfield 43, 3) := by decide +kernel
theorem dX7_addName_27 : decode cX7_addName 27 = .ok (.iload_n 3, 1) := by decide +kernel
theorem dX7_addName_28 : decode cX7_addName 28 = .ok (.iastore, 1) := by decide +kernel
theorem dX7_addName_29 : decode cX7_addName 29 = .ok (.aload_n 0, 1) := by decide +kernel
theorem dX7_addName_30 : decode cX7_addName 30 = .ok (.getfield 19, 3) := by decide +kernel
theorem dX7_addName_33 : decode cX7_addName 33 = .ok (.aload_n 0, 1) := by decide +kernel
theorem dX7_addName_34 : decode cX7_addName 34 = .ok (.getfield 43, 3) := by decide +kernel
theorem dX7_addName_37 : decode cX7_addName 37 = .ok (.iconst (-1), 1) := by decide +kernel
theorem dX7_addName_38 : decode cX7_addName 38 = .ok (.iastore, 1) := by decide +kernel
theorem dX7_addName_39 : decode cX7_addName 39 = .ok (.aload_n 0, 1) := by decide +kernel
theorem dX7_addName_40 : decode cX7_addName 40 = .ok (.getfield 22, 3) := by decide +kernel
theorem dX7_addName_43 : decode cX7_addName 43 = .ok (.aload_n 0, 1) := by decide +kernel
theorem dX7_addName_44 : decode cX7_addName 44 = .ok (.getfield 43, 3) := by decide +kernel
theorem dX7_addName_47 : decode cX7_addName 47 = .ok (.iconst (-1), 1) := by decide +kernel
theorem dX7_addName_48 : decode cX7_addName 48 = .ok (.iastore, 1) := by decide +kernel
theorem dX7_addName_49 : decode cX7_addName 49 = .ok (.aload_n 0, 1) := by decide +kernel
theorem dX7_addName_50 : decode cX7_addName 50 = .ok (.dup, 1) := by decide +kernel
theorem dX7_addName_51 : decode cX7_addName 51 = .ok (.getfield 43, 3) := by decide +kernel
theorem dX7_addName_54 : decode cX7_addName 54 = .ok (.iconst 1, 1) := by decide +kernel
theorem dX7_addName_55 : decode cX7_addName 55 = .ok (.iadd, 1) := by decide +kernel
theorem dX7_addName_56 : decode cX7_addName 56 = .ok (.putfield 43, 3) := by decide +kernel
theorem dX7_addName_59 : decode cX7_addName 59 = .ok (.return_, 1) := by decide +kernel
theorem dX7_addSoul_0 : decode cX7_addSoul 0 = .ok (.aload_n 0, 1) := by decide +kernel
theorem dX7_addSoul_1 : decode cX7_addSoul 1 = .ok (.getfield 47, 3) := by decide +kernel
theorem dX7_addSoul_4 : decode cX7_addSoul 4 = .ok (.bipush 9, 2) := by decide +kernel
theorem dX7_addSoul_6 : decode cX7_addSoul 6 = .ok (.if_icmp .ge 95, 3) := by decide +kernel
theorem dX7_addSoul_9 : decode cX7_addSoul 9 = .ok (.aload_n 0, 1) := by decide +kernel
theorem dX7_addSoul_10 : decode cX7_addSoul 10 = .ok (.getfield 25, 3) := by decide +kernel
theorem dX7_addSoul_13 : decode cX7_addSoul 13 = .ok (.aload_n 0, 1) := by decide +kernel
theorem dX7_addSoul_14 : decode cX7_addSoul 14 = .ok (.getfield 47, 3) := by decide +kernel
theorem dX7_addSoul_17 : decode cX7_addSoul 17 = .ok (.lload_n 1, 1) := by decide +kernel
theorem dX7_addSoul_18 : decode cX7_addSoul 18 = .ok (.lastore, 1) := by decide +kernel
theorem dX7_addSoul_19 : decode cX7_addSoul 19 = .ok (.aload_n 0, 1) := by decide +kernel
theorem dX7_addSoul_20 : decode cX7_addSoul 20 = .ok (.getfield 28, 3) := by decide +kernel
theorem dX7_addSoul_23 : decode cX7_addSoul 23 = .ok (.aload_n 0, 1) := by decide +kernel
theorem dX7_addSoul_24 : decode cX7_addSoul 24 = .ok (.getfield 47, 3) := by decide +kernel
theorem dX7_addSoul_27 : decode cX7_addSoul 27 = .ok (.iload_n 3, 1) := by decide +kernel
theorem dX7_addSoul_28 : decode cX7_addSoul 28 = .ok (.iastore, 1) := by decide +kernel
theorem dX7_addSoul_29 : decode cX7_addSoul 29 = .ok (.aload_n 0, 1) := by decide +kernel
theorem dX7_addSoul_30 : decode cX7_addSoul 30 = .ok (.getfield 31, 3) := by decide +kernel
theorem dX7_addSoul_33 : decode cX7_addSoul 33 = .ok (.aload_n 0, 1) := by decide +kernel
theorem dX7_addSoul_34 : decode cX7_addSoul 34 = .ok (.getfield 47, 3) := by decide +kernel
theorem dX7_addSoul_37 : decode cX7_addSoul 37 = .ok (.iconst (-1), 1) := by decide +kernel
theorem dX7_addSoul_38 : decode cX7_addSoul 38 = .ok (.iastore, 1) := by decide +kernel
theorem dX7_addSoul_39 : decode cX7_addSoul 39 = .ok (.aload_n 0, 1) := by decide +kernel
theorem dX7_addSoul_40 : decode cX7_addSoul 40 = .ok (.getfield 34, 3) := by decide +kernel
theorem dX7_addSoul_43 : decode cX7_addSoul 43 = .ok (.aload_n 0, 1) := by decide +kernel
theorem dX7_addSoul_44 : decode cX7_addSoul 44 = .ok (.getfield 47, 3) := by decide +kernel
theorem dX7_addSoul_47 : decode cX7_addSoul 47 = .ok (.iconst (-1), 1) := by decide +kernel
theorem dX7_addSoul_48 : decode cX7_addSoul 48 = .ok (.iastore, 1) := by decide +kernel
theorem dX7_addSoul_49 : decode cX7_addSoul 49 = .ok (.aload_n 0, 1) := by decide +kernel
theorem dX7_addSoul_50 : decode cX7_addSoul 50 = .ok (.getfield 37, 3) := by decide +kernel
theorem dX7_addSoul_53 : decode cX7_addSoul 53 = .ok (.aload_n 0, 1) := by decide +kernel
theorem dX7_addSoul_54 : decode cX7_addSoul 54 = .ok (.getfield 47, 3) := by decide +kernel
theorem dX7_addSoul_57 : decode cX7_addSoul 57 = .ok (.iconst (-1), 1) := by decide +kernel
theorem dX7_addSoul_58 : decode cX7_addSoul 58 = .ok (.iastore, 1) := by decide +kernel
theorem dX7_addSoul_59 : decode cX7_addSoul 59 = .ok (.iconst 0, 1) := by decide +kernel
theorem dX7_addSoul_60 : decode cX7_addSoul 60 = .ok (.istore 4, 2) := by decide +kernel
theorem dX7_addSoul_62 : decode cX7_addSoul 62 = .ok (.iload 4, 2) := by decide +kernel
theorem dX7_addSoul_64 : decode cX7_addSoul 64 = .ok (.bipush 9, 2) := by decide +kernel
theorem dX7_addSoul_66 : decode cX7_addSoul 66 = .ok (.if_icmp .ge 25, 3) := by decide +kernel
theorem dX7_addSoul_69 : decode cX7_addSoul 69 = .ok (.aload_n 0, 1) := by decide +kernel
theorem dX7_addSoul_70 : decode cX7_addSoul 70 = .ok (.getfield 40, 3) := by decide +kernel
theorem dX7_addSoul_73 : decode cX7_addSoul 73 = .ok (.aload_n 0, 1) := by decide +kernel
theorem dX7_addSoul_74 : decode cX7_addSoul 74 = .ok (.getfield 47, 3) := by decide +kernel
theorem dX7_addSoul_77 : decode cX7_addSoul 77 = .ok (.bipush 9, 2) := by decide +kernel
theorem dX7_addSoul_79 : decode cX7_addSoul 79 = .ok (.imul, 1) := by decide +kernel
theorem dX7_addSoul_80 : decode cX7_addSoul 80 = .ok (.iload 4, 2) := by decide +kernel
theorem dX7_addSoul_82 : decode cX7_addSoul 82 = .ok (.iadd, 1) := by decide +kernel
theorem dX7_addSoul_83 : decode cX7_addSoul 83 = .ok (.iconst 0, 1) := by decide +kernel
theorem dX7_addSoul_84 : decode cX7_addSoul 84 = .ok (.iastore, 1) := by decide +kernel
theorem dX7_addSoul_85 : decode cX7_addSoul 85 = .ok (.iinc 4 1, 3) := by decide +kernel
theorem dX7_addSoul_88 : decode cX7_addSoul 88 = .ok (.goto (-26), 3) := by decide +kernel
theorem dX7_addSoul_91 : decode cX7_addSoul 91 = .ok (.aload_n 0, 1) := by decide +kernel
theorem dX7_addSoul_92 : decode cX7_addSoul 92 = .ok (.dup, 1) := by decide +kernel
theorem dX7_addSoul_93 : decode cX7_addSoul 93 = .ok (.getfield 47, 3) := by decide +kernel
theorem dX7_addSoul_96 : decode cX7_addSoul 96 = .ok (.iconst 1, 1) := by decide +kernel
theorem dX7_addSoul_97 : decode cX7_addSoul 97 = .ok (.iadd, 1) := by decide +kernel
theorem dX7_addSoul_98 : decode cX7_addSoul 98 = .ok (.putfield 47, 3) := by decide +kernel
theorem dX7_addSoul_101 : decode cX7_addSoul 101 = .ok (.return_, 1) := by decide +kernel
theorem dX7_find_0 : decode cX7_find 0 = .ok (.iconst 0, 1) := by decide +kernel
theorem dX7_find_1 : decode cX7_find 1 = .ok (.istore 4, 2) := by decide +kernel
theorem dX7_find_3 : decode cX7_find 3 = .ok (.iload 4, 2) := by decide +kernel
theorem dX7_find_5 : decode cX7_find 5 = .ok (.iload_n 3, 1) := by decide +kernel
theorem dX7_find_6 : decode cX7_find 6 = .ok (.if_icmp .ge 28, 3) := by decide +kernel
theorem dX7_find_9 : decode cX7_find 9 = .ok (.iload 4, 2) := by decide +kernel
theorem dX7_find_11 : decode cX7_find 11 = .ok (.aload_n 2, 1) := by decide +kernel
theorem dX7_find_12 : decode cX7_find 12 = .ok (.arraylength, 1) := by decide +kernel
theorem dX7_find_13 : decode cX7_find 13 = .ok (.if_icmp .ge 21, 3) := by decide +kernel
theorem dX7_find_16 : decode cX7_find 16 = .ok (.aload_n 2, 1) := by decide +kernel
theorem dX7_find_17 : decode cX7_find 17 = .ok (.iload 4, 2) := by decide +kernel
theorem dX7_find_19 : decode cX7_find 19 = .ok (.laload, 1) := by decide +kernel
theorem dX7_find_20 : decode cX7_find 20 = .ok (.lload_n 0, 1) := by decide +kernel
theorem dX7_find_21 : decode cX7_find 21 = .ok (.lcmp, 1) := by decide +kernel
theorem dX7_find_22 : decode cX7_find 22 = .ok (.ifCond .ne 6, 3) := by decide +kernel
theorem dX7_find_25 : decode cX7_find 25 = .ok (.iload 4, 2) := by decide +kernel
theorem dX7_find_27 : decode cX7_find 27 = .ok (.ireturn, 1) := by decide +kernel
theorem dX7_find_28 : decode cX7_find 28 = .ok (.iinc 4 1, 3) := by decide +kernel
theorem dX7_find_31 : decode cX7_find 31 = .ok (.goto (-28), 3) := by decide +kernel
theorem dX7_find_34 : decode cX7_find 34 = .ok (.iconst (-1), 1) := by decide +kernel
theorem dX7_find_35 : decode cX7_find 35 = .ok (.ireturn, 1) := by decide +kernel
theorem dX7_findName_0 : decode cX7_findName 0 = .ok (.lload_n 1, 1) := by decide +kernel
theorem dX7_findName_1 : decode cX7_findName 1 = .ok (.aload_n 0, 1) := by decide +kernel
theorem dX7_findName_2 : decode cX7_findName 2 = .ok (.getfield 9, 3) := by decide +kernel
theorem dX7_findName_5 : decode cX7_findName 5 = .ok (.aload_n 0, 1) := by decide +kernel
theorem dX7_findName_6 : decode cX7_findName 6 = .ok (.getfield 43, 3) := by decide +kernel
theorem dX7_findName_9 : decode cX7_findName 9 = .ok (.invokestatic 57, 3) := by decide +kernel
theorem dX7_findName_12 : decode cX7_findName 12 = .ok (.ireturn, 1) := by decide +kernel
theorem dX7_findSoul_0 : decode cX7_findSoul 0 = .ok (.lload_n 1, 1) := by decide +kernel
theorem dX7_findSoul_1 : decode cX7_findSoul 1 = .ok (.aload_n 0, 1) := by decide +kernel
theorem dX7_findSoul_2 : decode cX7_findSoul 2 = .ok (.getfield 25, 3) := by decide +kernel
theorem dX7_findSoul_5 : decode cX7_findSoul 5 = .ok (.aload_n 0, 1) := by decide +kernel
theorem dX7_findSoul_6 : decode cX7_findSoul 6 = .ok (.getfield 47, 3) := by decide +kernel
theorem dX7_findSoul_9 : decode cX7_findSoul 9 = .ok (.invokestatic 57, 3) := by decide +kernel
theorem dX7_findSoul_12 : decode cX7_findSoul 12 = .ok (.ireturn, 1) := by decide +kernel
theorem dX7_isBorneAtFirst_0 : decode cX7_isBorneAtFirst 0 = .ok (.iconst 0, 1) := by decide +kernel
theorem dX7_isBorneAtFirst_1 : decode cX7_isBorneAtFirst 1 = .ok (.istore_n 2, 1) := by decide +kernel
theorem dX7_isBorneAtFirst_2 : decode cX7_isBorneAtFirst 2 = .ok (.iload_n 2, 1) := by decide +kernel
theorem dX7_isBorneAtFirst_3 : decode cX7_isBorneAtFirst 3 = .ok (.aload_n 0, 1) := by decide +kernel
theorem dX7_isBorneAtFirst_4 : decode cX7_isBorneAtFirst 4 = .ok (.getfield 47, 3) := by decide +kernel
theorem dX7_isBorneAtFirst_7 : decode cX7_isBorneAtFirst 7 = .ok (.if_icmp .ge 21, 3) := by decide +kernel
theorem dX7_isBorneAtFirst_10 : decode cX7_isBorneAtFirst 10 = .ok (.aload_n 0, 1) := by decide +kernel
theorem dX7_isBorneAtFirst_11 : decode cX7_isBorneAtFirst 11 = .ok (.getfield 31, 3) := by decide +kernel
theorem dX7_isBorneAtFirst_14 : decode cX7_isBorneAtFirst 14 = .ok (.iload_n 2, 1) := by decide +kernel
theorem dX7_isBorneAtFirst_15 : decode cX7_isBorneAtFirst 15 = .ok (.iaload, 1) := by decide +kernel
theorem dX7_isBorneAtFirst_16 : decode cX7_isBorneAtFirst 16 = .ok (.iload_n 1, 1) := by decide +kernel
theorem dX7_isBorneAtFirst_17 : decode cX7_isBorneAtFirst 17 = .ok (.if_icmp .ne 5, 3) := by decide +kernel
theorem dX7_isBorneAtFirst_20 : decode cX7_isBorneAtFirst 20 = .ok (.iconst 1, 1) := by decide +kernel
theorem dX7_isBorneAtFirst_21 : decode cX7_isBorneAtFirst 21 = .ok (.ireturn, 1) := by decide +kernel
theorem dX7_isBorneAtFirst_22 : decode cX7_isBorneAtFirst 22 = .ok (.iinc 2 1, 3) := by decide +kernel
theorem dX7_isBorneAtFirst_25 : decode cX7_isBorneAtFirst 25 = .ok (.goto (-23), 3) := by decide +kernel
theorem dX7_isBorneAtFirst_28 : decode cX7_isBorneAtFirst 28 = .ok (.iconst 0, 1) := by decide +kernel
theorem dX7_isBorneAtFirst_29 : decode cX7_isBorneAtFirst 29 = .ok (.ireturn, 1) := by decide +kernel
theorem dX7_worthOf_0 : decode cX7_worthOf 0 = .ok (.aload_n 0, 1) := by decide +kernel
theorem dX7_worthOf_1 : decode cX7_worthOf 1 = .ok (.iload_n 1, 1) := by decide +kernel
theorem dX7_worthOf_2 : decode cX7_worthOf 2 = .ok (.invokevirtual 61, 3) := by decide +kernel
theorem dX7_worthOf_5 : decode cX7_worthOf 5 = .ok (.ifCond .eq 25, 3) := by decide +kernel
theorem dX7_worthOf_8 : decode cX7_worthOf 8 = .ok (.aload_n 0, 1) := by decide +kernel
theorem dX7_worthOf_9 : decode cX7_worthOf 9 = .ok (.iload_n 2, 1) := by decide +kernel
theorem dX7_worthOf_10 : decode cX7_worthOf 10 = .ok (.invokevirtual 65, 3) := by decide +kernel
theorem dX7_worthOf_13 : decode cX7_worthOf 13 = .ok (.ifCond .eq 17, 3) := by decide +kernel
theorem dX7_worthOf_16 : decode cX7_worthOf 16 = .ok (.aload_n 0, 1) := by decide +kernel
theorem dX7_worthOf_17 : decode cX7_worthOf 17 = .ok (.getfield 40, 3) := by decide +kernel
theorem dX7_worthOf_20 : decode cX7_worthOf 20 = .ok (.iload_n 1, 1) := by decide +kernel
theorem dX7_worthOf_21 : decode cX7_worthOf 21 = .ok (.bipush 9, 2) := by decide +kernel
theorem dX7_worthOf_23 : decode cX7_worthOf 23 = .ok (.imul, 1) := by decide +kernel
theorem dX7_worthOf_24 : decode cX7_worthOf 24 = .ok (.iload_n 2, 1) := by decide +kernel
theorem dX7_worthOf_25 : decode cX7_worthOf 25 = .ok (.iadd, 1) := by decide +kernel
theorem dX7_worthOf_26 : decode cX7_worthOf 26 = .ok (.iaload, 1) := by decide +kernel
theorem dX7_worthOf_27 : decode cX7_worthOf 27 = .ok (.goto 4, 3) := by decide +kernel
theorem dX7_worthOf_30 : decode cX7_worthOf 30 = .ok (.iconst 0, 1) := by decide +kernel
theorem dX7_worthOf_31 : decode cX7_worthOf 31 = .ok (.ireturn, 1) := by decide +kernel
theorem dX8_passNewWord_0 : decode cX8_passNewWord 0 = .ok (.aload_n 0, 1) := by decide +kernel
theorem dX8_passNewWord_1 : decode cX8_passNewWord 1 = .ok (.getfield 9, 3) := by decide +kernel
theorem dX8_passNewWord_4 : decode cX8_passNewWord 4 = .ok (.invokevirtual 168, 3) := by decide +kernel
theorem dX8_passNewWord_7 : decode cX8_passNewWord 7 = .ok (.ifCond .ne 12, 3) := by decide +kernel
theorem dX8_passNewWord_10 : decode cX8_passNewWord 10 = .ok (.aload_n 0, 1) := by decide +kernel
theorem dX8_passNewWord_11 : decode cX8_passNewWord 11 = .ok (.getfield 9, 3) := by decide +kernel
theorem dX8_passNewWord_14 : decode cX8_passNewWord 14 = .ok (.iconst 1, 1) := by decide +kernel
theorem dX8_passNewWord_15 : decode cX8_passNewWord 15 = .ok (.invokevirtual 92, 3) := by decide +kernel
theorem dX8_passNewWord_18 : decode cX8_passNewWord 18 = .ok (.ireturn, 1) := by decide +kernel
theorem dX8_passNewWord_19 : decode cX8_passNewWord 19 = .ok (.aload_n 0, 1) := by decide +kernel
theorem dX8_passNewWord_20 : decode cX8_passNewWord 20 = .ok (.getfield 15, 3) := by decide +kernel
theorem dX8_passNewWord_23 : decode cX8_passNewWord 23 = .ok (.aload_n 0, 1) := by decide +kernel
theorem dX8_passNewWord_24 : decode cX8_passNewWord 24 = .ok (.getfield 9, 3) := by decide +kernel
theorem dX8_passNewWord_27 : decode cX8_passNewWord 27 = .ok (.getfield 102, 3) := by decide +kernel
theorem dX8_passNewWord_30 : decode cX8_passNewWord 30 = .ok (.invokevirtual 131, 3) := by decide +kernel
theorem dX8_passNewWord_33 : decode cX8_passNewWord 33 = .ok (.iconst (-1), 1) := by decide +kernel
theorem dX8_passNewWord_34 : decode cX8_passNewWord 34 = .ok (.if_icmp .ne 21, 3) := by decide +kernel
theorem dX8_passNewWord_37 : decode cX8_passNewWord 37 = .ok (.aload_n 0, 1) := by decide +kernel
theorem dX8_passNewWord_38 : decode cX8_passNewWord 38 = .ok (.getfield 15, 3) := by decide +kernel
theorem dX8_passNewWord_41 : decode cX8_passNewWord 41 = .ok (.aload_n 0, 1) := by decide +kernel
theorem dX8_passNewWord_42 : decode cX8_passNewWord 42 = .ok (.getfield 9, 3) := by decide +kernel
theorem dX8_passNewWord_45 : decode cX8_passNewWord 45 = .ok (.getfield 102, 3) := by decide +kernel
theorem dX8_passNewWord_48 : decode cX8_passNewWord 48 = .ok (.invokevirtual 151, 3) := by decide +kernel
theorem dX8_passNewWord_51 : decode cX8_passNewWord 51 = .ok (.iconst (-1), 1) := by decide +kernel
theorem dX8_passNewWord_52 : decode cX8_passNewWord 52 = .ok (.if_icmp .eq 7, 3) := by decide +kernel
theorem dX8_passNewWord_55 : decode cX8_passNewWord 55 = .ok (.iconst 1, 1) := by decide +kernel
theorem dX8_passNewWord_56 : decode cX8_passNewWord 56 = .ok (.goto 4, 3) := by decide +kernel
theorem dX8_passNewWord_59 : decode cX8_passNewWord 59 = .ok (.iconst 0, 1) := by decide +kernel
theorem dX8_passNewWord_60 : decode cX8_passNewWord 60 = .ok (.istore_n 1, 1) := by decide +kernel
theorem dX8_passNewWord_61 : decode cX8_passNewWord 61 = .ok (.iload_n 1, 1) := by decide +kernel
theorem dX8_passNewWord_62 : decode cX8_passNewWord 62 = .ok (.ifCond .eq 14, 3) := by decide +kernel
theorem dX8_passNewWord_65 : decode cX8_passNewWord 65 = .ok (.aload_n 0, 1) := by decide +kernel
theorem dX8_passNewWord_66 : decode cX8_passNewWord 66 = .ok (.getfield 9, 3) := by decide +kernel
theorem dX8_passNewWord_69 : decode cX8_passNewWord 69 = .ok (.iconst 3, 1) := by decide +kernel
theorem dX8_passNewWord_70 : decode cX8_passNewWord 70 = .ok (.invokevirtual 92, 3) := by decide +kernel
theorem dX8_passNewWord_73 : decode cX8_passNewWord 73 = .ok (.goto 10, 3) := by decide +kernel
theorem dX8_passNewWord_76 : decode cX8_passNewWord 76 = .ok (.aload_n 0, 1) := by decide +kernel
theorem dX8_passNewWord_77 : decode cX8_passNewWord 77 = .ok (.getfield 9, 3) := by decide +kernel
theorem dX8_passNewWord_80 : decode cX8_passNewWord 80 = .ok (.invokevirtual 56, 3) := by decide +kernel
theorem dX8_passNewWord_83 : decode cX8_passNewWord 83 = .ok (.ireturn, 1) := by decide +kernel
theorem dX8_passOnce_0 : decode cX8_passOnce 0 = .ok (.aload_n 0, 1) := by decide +kernel
theorem dX8_passOnce_1 : decode cX8_passOnce 1 = .ok (.getfield 9, 3) := by decide +kernel
theorem dX8_passOnce_4 : decode cX8_passOnce 4 = .ok (.getfield 34, 3) := by decide +kernel
theorem dX8_passOnce_7 : decode cX8_passOnce 7 = .ok (.iconst 1, 1) := by decide +kernel
theorem dX8_passOnce_8 : decode cX8_passOnce 8 = .ok (.if_icmp .ne 17, 3) := by decide +kernel
theorem dX8_passOnce_11 : decode cX8_passOnce 11 = .ok (.iload_n 1, 1) := by decide +kernel
theorem dX8_passOnce_12 : decode cX8_passOnce 12 = .ok (.ifCond .lt 13, 3) := by decide +kernel
theorem dX8_passOnce_15 : decode cX8_passOnce 15 = .ok (.iload_n 1, 1) := by decide +kernel
theorem dX8_passOnce_16 : decode cX8_passOnce 16 = .ok (.aload_n 2, 1) := by decide +kernel
theorem dX8_passOnce_17 : decode cX8_passOnce 17 = .ok (.arraylength, 1) := by decide +kernel
theorem dX8_passOnce_18 : decode cX8_passOnce 18 = .ok (.if_icmp .ge 7, 3) := by decide +kernel
theorem dX8_passOnce_21 : decode cX8_passOnce 21 = .ok (.iconst 1, 1) := by decide +kernel
theorem dX8_passOnce_22 : decode cX8_passOnce 22 = .ok (.goto 4, 3) := by decide +kernel
theorem dX8_passOnce_25 : decode cX8_passOnce 25 = .ok (.iconst 0, 1) := by decide +kernel
theorem dX8_passOnce_26 : decode cX8_passOnce 26 = .ok (.istore_n 3, 1) := by decide +kernel
theorem dX8_passOnce_27 : decode cX8_passOnce 27 = .ok (.iload_n 3, 1) := by decide +kernel
theorem dX8_passOnce_28 : decode cX8_passOnce 28 = .ok (.ifCond .eq 19, 3) := by decide +kernel
theorem dX8_passOnce_31 : decode cX8_passOnce 31 = .ok (.aload_n 2, 1) := by decide +kernel
