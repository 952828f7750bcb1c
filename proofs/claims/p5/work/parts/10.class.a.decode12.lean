theorem dX6_hasRoom_12 : decode cX6_hasRoom 12 = .ok (.iconst 1, 1) := by decide +kernel
theorem dX6_hasRoom_13 : decode cX6_hasRoom 13 = .ok (.goto 4, 3) := by decide +kernel
theorem dX6_hasRoom_16 : decode cX6_hasRoom 16 = .ok (.iconst 0, 1) := by decide +kernel
theorem dX6_hasRoom_17 : decode cX6_hasRoom 17 = .ok (.ireturn, 1) := by decide +kernel
theorem dX6_isSign_0 : decode cX6_isSign 0 = .ok (.aload_n 0, 1) := by decide +kernel
theorem dX6_isSign_1 : decode cX6_isSign 1 = .ok (.getfield 60, 3) := by decide +kernel
theorem dX6_isSign_4 : decode cX6_isSign 4 = .ok (.iconst 3, 1) := by decide +kernel
theorem dX6_isSign_5 : decode cX6_isSign 5 = .ok (.if_icmp .ne 15, 3) := by decide +kernel
theorem dX6_isSign_8 : decode cX6_isSign 8 = .ok (.aload_n 0, 1) := by decide +kernel
theorem dX6_isSign_9 : decode cX6_isSign 9 = .ok (.getfield 66, 3) := by decide +kernel
theorem dX6_isSign_12 : decode cX6_isSign 12 = .ok (.iload_n 1, 1) := by decide +kernel
theorem dX6_isSign_13 : decode cX6_isSign 13 = .ok (.if_icmp .ne 7, 3) := by decide +kernel
theorem dX6_isSign_16 : decode cX6_isSign 16 = .ok (.iconst 1, 1) := by decide +kernel
theorem dX6_isSign_17 : decode cX6_isSign 17 = .ok (.goto 4, 3) := by decide +kernel
theorem dX6_isSign_20 : decode cX6_isSign 20 = .ok (.iconst 0, 1) := by decide +kernel
theorem dX6_isSign_21 : decode cX6_isSign 21 = .ok (.ireturn, 1) := by decide +kernel
theorem dX6_isWord_0 : decode cX6_isWord 0 = .ok (.lconst 0, 1) := by decide +kernel
theorem dX6_isWord_1 : decode cX6_isWord 1 = .ok (.lstore_n 2, 1) := by decide +kernel
theorem dX6_isWord_2 : decode cX6_isWord 2 = .ok (.iconst 0, 1) := by decide +kernel
theorem dX6_isWord_3 : decode cX6_isWord 3 = .ok (.istore 4, 2) := by decide +kernel
theorem dX6_isWord_5 : decode cX6_isWord 5 = .ok (.iload 4, 2) := by decide +kernel
theorem dX6_isWord_7 : decode cX6_isWord 7 = .ok (.aload_n 1, 1) := by decide +kernel
theorem dX6_isWord_8 : decode cX6_isWord 8 = .ok (.invokevirtual 29, 3) := by decide +kernel
theorem dX6_isWord_11 : decode cX6_isWord 11 = .ok (.if_icmp .ge 22, 3) := by decide +kernel
theorem dX6_isWord_14 : decode cX6_isWord 14 = .ok (.lload_n 2, 1) := by decide +kernel
theorem dX6_isWord_15 : decode cX6_isWord 15 = .ok (.bipush 8, 2) := by decide +kernel
theorem dX6_isWord_17 : decode cX6_isWord 17 = .ok (.lshl, 1) := by decide +kernel
theorem dX6_isWord_18 : decode cX6_isWord 18 = .ok (.aload_n 1, 1) := by decide +kernel
theorem dX6_isWord_19 : decode cX6_isWord 19 = .ok (.iload 4, 2) := by decide +kernel
theorem dX6_isWord_21 : decode cX6_isWord 21 = .ok (.invokevirtual 39, 3) := by decide +kernel
theorem dX6_isWord_24 : decode cX6_isWord 24 = .ok (.i2l, 1) := by decide +kernel
theorem dX6_isWord_25 : decode cX6_isWord 25 = .ok (.lor, 1) := by decide +kernel
theorem dX6_isWord_26 : decode cX6_isWord 26 = .ok (.lstore_n 2, 1) := by decide +kernel
theorem dX6_isWord_27 : decode cX6_isWord 27 = .ok (.iinc 4 1, 3) := by decide +kernel
theorem dX6_isWord_30 : decode cX6_isWord 30 = .ok (.goto (-25), 3) := by decide +kernel
theorem dX6_isWord_33 : decode cX6_isWord 33 = .ok (.aload_n 0, 1) := by decide +kernel
theorem dX6_isWord_34 : decode cX6_isWord 34 = .ok (.getfield 60, 3) := by decide +kernel
theorem dX6_isWord_37 : decode cX6_isWord 37 = .ok (.iconst 1, 1) := by decide +kernel
theorem dX6_isWord_38 : decode cX6_isWord 38 = .ok (.if_icmp .ne 16, 3) := by decide +kernel
theorem dX6_isWord_41 : decode cX6_isWord 41 = .ok (.lload_n 2, 1) := by decide +kernel
theorem dX6_isWord_42 : decode cX6_isWord 42 = .ok (.aload_n 0, 1) := by decide +kernel
theorem dX6_isWord_43 : decode cX6_isWord 43 = .ok (.getfield 69, 3) := by decide +kernel
theorem dX6_isWord_46 : decode cX6_isWord 46 = .ok (.lcmp, 1) := by decide +kernel
theorem dX6_isWord_47 : decode cX6_isWord 47 = .ok (.ifCond .ne 7, 3) := by decide +kernel
theorem dX6_isWord_50 : decode cX6_isWord 50 = .ok (.iconst 1, 1) := by decide +kernel
theorem dX6_isWord_51 : decode cX6_isWord 51 = .ok (.goto 4, 3) := by decide +kernel
theorem dX6_isWord_54 : decode cX6_isWord 54 = .ok (.iconst 0, 1) := by decide +kernel
theorem dX6_isWord_55 : decode cX6_isWord 55 = .ok (.ireturn, 1) := by decide +kernel
theorem dX6_keepOwn_0 : decode cX6_keepOwn 0 = .ok (.lconst 0, 1) := by decide +kernel
theorem dX6_keepOwn_1 : decode cX6_keepOwn 1 = .ok (.lstore_n 2, 1) := by decide +kernel
theorem dX6_keepOwn_2 : decode cX6_keepOwn 2 = .ok (.iconst 0, 1) := by decide +kernel
theorem dX6_keepOwn_3 : decode cX6_keepOwn 3 = .ok (.istore 4, 2) := by decide +kernel
theorem dX6_keepOwn_5 : decode cX6_keepOwn 5 = .ok (.iload 4, 2) := by decide +kernel
theorem dX6_keepOwn_7 : decode cX6_keepOwn 7 = .ok (.aload_n 1, 1) := by decide +kernel
theorem dX6_keepOwn_8 : decode cX6_keepOwn 8 = .ok (.invokevirtual 29, 3) := by decide +kernel
theorem dX6_keepOwn_11 : decode cX6_keepOwn 11 = .ok (.if_icmp .ge 67, 3) := by decide +kernel
theorem dX6_keepOwn_14 : decode cX6_keepOwn 14 = .ok (.aload_n 0, 1) := by decide +kernel
theorem dX6_keepOwn_15 : decode cX6_keepOwn 15 = .ok (.getfield 35, 3) := by decide +kernel
theorem dX6_keepOwn_18 : decode cX6_keepOwn 18 = .ok (.bipush 27, 2) := by decide +kernel
theorem dX6_keepOwn_20 : decode cX6_keepOwn 20 = .ok (.if_icmp .ge 58, 3) := by decide +kernel
theorem dX6_keepOwn_23 : decode cX6_keepOwn 23 = .ok (.aload_n 1, 1) := by decide +kernel
theorem dX6_keepOwn_24 : decode cX6_keepOwn 24 = .ok (.iload 4, 2) := by decide +kernel
theorem dX6_keepOwn_26 : decode cX6_keepOwn 26 = .ok (.invokevirtual 39, 3) := by decide +kernel
theorem dX6_keepOwn_29 : decode cX6_keepOwn 29 = .ok (.bipush 32, 2) := by decide +kernel
theorem dX6_keepOwn_31 : decode cX6_keepOwn 31 = .ok (.if_icmp .ne 28, 3) := by decide +kernel
theorem dX6_keepOwn_34 : decode cX6_keepOwn 34 = .ok (.aload_n 0, 1) := by decide +kernel
theorem dX6_keepOwn_35 : decode cX6_keepOwn 35 = .ok (.getfield 15, 3) := by decide +kernel
theorem dX6_keepOwn_38 : decode cX6_keepOwn 38 = .ok (.aload_n 0, 1) := by decide +kernel
theorem dX6_keepOwn_39 : decode cX6_keepOwn 39 = .ok (.getfield 35, 3) := by decide +kernel
theorem dX6_keepOwn_42 : decode cX6_keepOwn 42 = .ok (.lload_n 2, 1) := by decide +kernel
theorem dX6_keepOwn_43 : decode cX6_keepOwn 43 = .ok (.lastore, 1) := by decide +kernel
theorem dX6_keepOwn_44 : decode cX6_keepOwn 44 = .ok (.aload_n 0, 1) := by decide +kernel
theorem dX6_keepOwn_45 : decode cX6_keepOwn 45 = .ok (.dup, 1) := by decide +kernel
theorem dX6_keepOwn_46 : decode cX6_keepOwn 46 = .ok (.getfield 35, 3) := by decide +kernel
theorem dX6_keepOwn_49 : decode cX6_keepOwn 49 = .ok (.iconst 1, 1) := by decide +kernel
theorem dX6_keepOwn_50 : decode cX6_keepOwn 50 = .ok (.iadd, 1) := by decide +kernel
theorem dX6_keepOwn_51 : decode cX6_keepOwn 51 = .ok (.putfield 35, 3) := by decide +kernel
theorem dX6_keepOwn_54 : decode cX6_keepOwn 54 = .ok (.lconst 0, 1) := by decide +kernel
theorem dX6_keepOwn_55 : decode cX6_keepOwn 55 = .ok (.lstore_n 2, 1) := by decide +kernel
theorem dX6_keepOwn_56 : decode cX6_keepOwn 56 = .ok (.goto 16, 3) := by decide +kernel
theorem dX6_keepOwn_59 : decode cX6_keepOwn 59 = .ok (.lload_n 2, 1) := by decide +kernel
theorem dX6_keepOwn_60 : decode cX6_keepOwn 60 = .ok (.bipush 8, 2) := by decide +kernel
theorem dX6_keepOwn_62 : decode cX6_keepOwn 62 = .ok (.lshl, 1) := by decide +kernel
theorem dX6_keepOwn_63 : decode cX6_keepOwn 63 = .ok (.aload_n 1, 1) := by decide +kernel
theorem dX6_keepOwn_64 : decode cX6_keepOwn 64 = .ok (.iload 4, 2) := by decide +kernel
theorem dX6_keepOwn_66 : decode cX6_keepOwn 66 = .ok (.invokevirtual 39, 3) := by decide +kernel
theorem dX6_keepOwn_69 : decode cX6_keepOwn 69 = .ok (.i2l, 1) := by decide +kernel
theorem dX6_keepOwn_70 : decode cX6_keepOwn 70 = .ok (.lor, 1) := by decide +kernel
theorem dX6_keepOwn_71 : decode cX6_keepOwn 71 = .ok (.lstore_n 2, 1) := by decide +kernel
theorem dX6_keepOwn_72 : decode cX6_keepOwn 72 = .ok (.iinc 4 1, 3) := by decide +kernel
theorem dX6_keepOwn_75 : decode cX6_keepOwn 75 = .ok (.goto (-70), 3) := by decide +kernel
theorem dX6_keepOwn_78 : decode cX6_keepOwn 78 = .ok (.return_, 1) := by decide +kernel
theorem dX6_pass_0 : decode cX6_pass 0 = .ok (.aload_n 0, 1) := by decide +kernel
theorem dX6_pass_1 : decode cX6_pass 1 = .ok (.invokevirtual 57, 3) := by decide +kernel
theorem dX6_pass_4 : decode cX6_pass 4 = .ok (.iconst 1, 1) := by decide +kernel
theorem dX6_pass_5 : decode cX6_pass 5 = .ok (.ireturn, 1) := by decide +kernel
theorem dX6_passKnown_0 : decode cX6_passKnown 0 = .ok (.aload_n 0, 1) := by decide +kernel
theorem dX6_passKnown_1 : decode cX6_passKnown 1 = .ok (.invokevirtual 91, 3) := by decide +kernel
theorem dX6_passKnown_4 : decode cX6_passKnown 4 = .ok (.ifCond .ne 9, 3) := by decide +kernel
theorem dX6_passKnown_7 : decode cX6_passKnown 7 = .ok (.aload_n 0, 1) := by decide +kernel
theorem dX6_passKnown_8 : decode cX6_passKnown 8 = .ok (.iconst 1, 1) := by decide +kernel
theorem dX6_passKnown_9 : decode cX6_passKnown 9 = .ok (.invokevirtual 84, 3) := by decide +kernel
theorem dX6_passKnown_12 : decode cX6_passKnown 12 = .ok (.ireturn, 1) := by decide +kernel
theorem dX6_passKnown_13 : decode cX6_passKnown 13 = .ok (.iload_n 1, 1) := by decide +kernel
theorem dX6_passKnown_14 : decode cX6_passKnown 14 = .ok (.iconst (-1), 1) := by decide +kernel
theorem dX6_passKnown_15 : decode cX6_passKnown 15 = .ok (.if_icmp .ne 9, 3) := by decide +kernel
theorem dX6_passKnown_18 : decode cX6_passKnown 18 = .ok (.aload_n 0, 1) := by decide +kernel
theorem dX6_passKnown_19 : decode cX6_passKnown 19 = .ok (.iconst 3, 1) := by decide +kernel
theorem dX6_passKnown_20 : decode cX6_passKnown 20 = .ok (.invokevirtual 84, 3) := by decide +kernel
theorem dX6_passKnown_23 : decode cX6_passKnown 23 = .ok (.ireturn, 1) := by decide +kernel
theorem dX6_passKnown_24 : decode cX6_passKnown 24 = .ok (.aload_n 0, 1) := by decide +kernel
theorem dX6_passKnown_25 : decode cX6_passKnown 25 = .ok (.iload_n 1, 1) := by decide +kernel
theorem dX6_passKnown_26 : decode cX6_passKnown 26 = .ok (.putfield 88, 3) := by decide +kernel
theorem dX6_passKnown_29 : decode cX6_passKnown 29 = .ok (.aload_n 0, 1) := by decide +kernel
theorem dX6_passKnown_30 : decode cX6_passKnown 30 = .ok (.invokevirtual 57, 3) := by decide +kernel
theorem dX6_passKnown_33 : decode cX6_passKnown 33 = .ok (.iconst 1, 1) := by decide +kernel
theorem dX6_passKnown_34 : decode cX6_passKnown 34 = .ok (.ireturn, 1) := by decide +kernel
theorem dX6_passNumber_0 : decode cX6_passNumber 0 = .ok (.aload_n 0, 1) := by decide +kernel
theorem dX6_passNumber_1 : decode cX6_passNumber 1 = .ok (.getfield 60, 3) := by decide +kernel
theorem dX6_passNumber_4 : decode cX6_passNumber 4 = .ok (.iconst 2, 1) := by decide +kernel
theorem dX6_passNumber_5 : decode cX6_passNumber 5 = .ok (.if_icmp .eq 9, 3) := by decide +kernel
theorem dX6_passNumber_8 : decode cX6_passNumber 8 = .ok (.aload_n 0, 1) := by decide +kernel
theorem dX6_passNumber_9 : decode cX6_passNumber 9 = .ok (.iconst 1, 1) := by decide +kernel
theorem dX6_passNumber_10 : decode cX6_passNumber 10 = .ok (.invokevirtual 84, 3) := by decide +kernel
theorem dX6_passNumber_13 : decode cX6_passNumber 13 = .ok (.ireturn, 1) := by decide +kernel
theorem dX6_passNumber_14 : decode cX6_passNumber 14 = .ok (.aload_n 0, 1) := by decide +kernel
theorem dX6_passNumber_15 : decode cX6_passNumber 15 = .ok (.getfield 73, 3) := by decide +kernel
theorem dX6_passNumber_18 : decode cX6_passNumber 18 = .ok (.iload_n 1, 1) := by decide +kernel
theorem dX6_passNumber_19 : decode cX6_passNumber 19 = .ok (.if_icmp .lt 11, 3) := by decide +kernel
theorem dX6_passNumber_22 : decode cX6_passNumber 22 = .ok (.aload_n 0, 1) := by decide +kernel
theorem dX6_passNumber_23 : decode cX6_passNumber 23 = .ok (.getfield 73, 3) := by decide +kernel
theorem dX6_passNumber_26 : decode cX6_passNumber 26 = .ok (.iload_n 2, 1) := by decide +kernel
theorem dX6_passNumber_27 : decode cX6_passNumber 27 = .ok (.if_icmp .le 9, 3) := by decide +kernel
theorem dX6_passNumber_30 : decode cX6_passNumber 30 = .ok (.aload_n 0, 1) := by decide +kernel
theorem dX6_passNumber_31 : decode cX6_passNumber 31 = .ok (.iconst 2, 1) := by decide +kernel
theorem dX6_passNumber_32 : decode cX6_passNumber 32 = .ok (.invokevirtual 84, 3) := by decide +kernel
theorem dX6_passNumber_35 : decode cX6_passNumber 35 = .ok (.ireturn, 1) := by decide +kernel
theorem dX6_passNumber_36 : decode cX6_passNumber 36 = .ok (.aload_n 0, 1) := by decide +kernel
theorem dX6_passNumber_37 : decode cX6_passNumber 37 = .ok (.aload_n 0, 1) := by decide +kernel
theorem dX6_passNumber_38 : decode cX6_passNumber 38 = .ok (.getfield 73, 3) := by decide +kernel
theorem dX6_passNumber_41 : decode cX6_passNumber 41 = .ok (.putfield 88, 3) := by decide +kernel
theorem dX6_passNumber_44 : decode cX6_passNumber 44 = .ok (.aload_n 0, 1) := by decide +kernel
theorem dX6_passNumber_45 : decode cX6_passNumber 45 = .ok (.invokevirtual 57, 3) := by decide +kernel
theorem dX6_passNumber_48 : decode cX6_passNumber 48 = .ok (.iconst 1, 1) := by decide +kernel
theorem dX6_passNumber_49 : decode cX6_passNumber 49 = .ok (.ireturn, 1) := by decide +kernel
theorem dX6_passSign_0 : decode cX6_passSign 0 = .ok (.aload_n 0, 1) := by decide +kernel
theorem dX6_passSign_1 : decode cX6_passSign 1 = .ok (.iload_n 1, 1) := by decide +kernel
theorem dX6_passSign_2 : decode cX6_passSign 2 = .ok (.invokevirtual 76, 3) := by decide +kernel
theorem dX6_passSign_5 : decode cX6_passSign 5 = .ok (.ifCond .eq 10, 3) := by decide +kernel
theorem dX6_passSign_8 : decode cX6_passSign 8 = .ok (.aload_n 0, 1) := by decide +kernel
theorem dX6_passSign_9 : decode cX6_passSign 9 = .ok (.invokevirtual 80, 3) := by decide +kernel
theorem dX6_passSign_12 : decode cX6_passSign 12 = .ok (.goto 8, 3) := by decide +kernel
theorem dX6_passSign_15 : decode cX6_passSign 15 = .ok (.aload_n 0, 1) := by decide +kernel
theorem dX6_passSign_16 : decode cX6_passSign 16 = .ok (.iconst 1, 1) := by decide +kernel
theorem dX6_passSign_17 : decode cX6_passSign 17 = .ok (.invokevirtual 84, 3) := by decide +kernel
theorem dX6_passSign_20 : decode cX6_passSign 20 = .ok (.ireturn, 1) := by decide +kernel
theorem dX6_put_0 : decode cX6_put 0 = .ok (.bipush 24, 2) := by decide +kernel
theorem dX6_put_2 : decode cX6_put 2 = .ok (.istore_n 2, 1) := by decide +kernel
theorem dX6_put_3 : decode cX6_put 3 = .ok (.iload_n 2, 1) := by decide +kernel
theorem dX6_put_4 : decode cX6_put 4 = .ok (.ifCond .lt 42, 3) := by decide +kernel
theorem dX6_put_7 : decode cX6_put 7 = .ok (.aload_n 0, 1) := by decide +kernel
theorem dX6_put_8 : decode cX6_put 8 = .ok (.getfield 43, 3) := by decide +kernel
theorem dX6_put_11 : decode cX6_put 11 = .ok (.sipush 940, 3) := by decide +kernel
theorem dX6_put_14 : decode cX6_put 14 = .ok (.if_icmp .ge 32, 3) := by decide +kernel
theorem dX6_put_17 : decode cX6_put 17 = .ok (.aload_n 0, 1) := by decide +kernel
theorem dX6_put_18 : decode cX6_put 18 = .ok (.getfield 11, 3) := by decide +kernel
theorem dX6_put_21 : decode cX6_put 21 = .ok (.aload_n 0, 1) := by decide +kernel
theorem dX6_put_22 : decode cX6_put 22 = .ok (.getfield 43, 3) := by decide +kernel
theorem dX6_put_25 : decode cX6_put 25 = .ok (.iload_n 1, 1) := by decide +kernel
theorem dX6_put_26 : decode cX6_put 26 = .ok (.iload_n 2, 1) := by decide +kernel
theorem dX6_put_27 : decode cX6_put 27 = .ok (.iushr, 1) := by decide +kernel
theorem dX6_put_28 : decode cX6_put 28 = .ok (.i2b, 1) := by decide +kernel
theorem dX6_put_29 : decode cX6_put 29 = .ok (.bastore, 1) := by decide +kernel
theorem dX6_put_30 : decode cX6_put 30 = .ok (.aload_n 0, 1) := by decide +kernel
theorem dX6_put_31 : decode cX6_put 31 = .ok (.dup, 1) := by decide +kernel
theorem dX6_put_32 : decode cX6_put 32 = .ok (.getfield 43, 3) := by decide +kernel
theorem dX6_put_35 : decode cX6_put 35 = .ok (.iconst 1, 1) := by decide +kernel
theorem dX6_put_36 : decode cX6_put 36 = .ok (.iadd, 1) := by decide +kernel
theorem dX6_put_37 : decode cX6_put 37 = .ok (.putfield 43, 3) := by decide +kernel
theorem dX6_put_40 : decode cX6_put 40 = .ok (.iinc 2 (-8), 3) := by decide +kernel
theorem dX6_put_43 : decode cX6_put 43 = .ok (.goto (-40), 3) := by decide +kernel
theorem dX6_put_46 : decode cX6_put 46 = .ok (.return_, 1) := by decide +kernel
theorem dX6_refuse_0 : decode cX6_refuse 0 = .ok (.aload_n 0, 1) := by decide +kernel
theorem dX6_refuse_1 : decode cX6_refuse 1 = .ok (.iload_n 1, 1) := by decide +kernel
theorem dX6_refuse_2 : decode cX6_refuse 2 = .ok (.putfield 51, 3) := by decide +kernel
theorem dX6_refuse_5 : decode cX6_refuse 5 = .ok (.aload_n 0, 1) := by decide +kernel
theorem dX6_refuse_6 : decode cX6_refuse 6 = .ok (.aload_n 0, 1) := by decide +kernel
theorem dX6_refuse_7 : decode cX6_refuse 7 = .ok (.getfield 63, 3) := by decide +kernel
theorem dX6_refuse_10 : decode cX6_refuse 10 = .ok (.putfield 54, 3) := by decide +kernel
theorem dX6_refuse_13 : decode cX6_refuse 13 = .ok (.iconst 0, 1) := by decide +kernel
theorem dX6_refuse_14 : decode cX6_refuse 14 = .ok (.ireturn, 1) := by decide +kernel
theorem dX6_startText_0 : decode cX6_startText 0 = .ok (.aload_n 0, 1) := by decide +kernel
theorem dX6_startText_1 : decode cX6_startText 1 = .ok (.iload_n 1, 1) := by decide +kernel
theorem dX6_startText_2 : decode cX6_startText 2 = .ok (.putfield 45, 3) := by decide +kernel
theorem dX6_startText_5 : decode cX6_startText 5 = .ok (.aload_n 0, 1) := by decide +kernel
theorem dX6_startText_6 : decode cX6_startText 6 = .ok (.iconst 0, 1) := by decide +kernel
theorem dX6_startText_7 : decode cX6_startText 7 = .ok (.putfield 48, 3) := by decide +kernel
theorem dX6_startText_10 : decode cX6_startText 10 = .ok (.aload_n 0, 1) := by decide +kernel
theorem dX6_startText_11 : decode cX6_startText 11 = .ok (.iconst 0, 1) := by decide +kernel
theorem dX6_startText_12 : decode cX6_startText 12 = .ok (.putfield 51, 3) := by decide +kernel
theorem dX6_startText_15 : decode cX6_startText 15 = .ok (.aload_n 0, 1) := by decide +kernel
theorem dX6_startText_16 : decode cX6_startText 16 = .ok (.iconst 0, 1) := by decide +kernel
theorem dX6_startText_17 : decode cX6_startText 17 = .ok (.putfield 54, 3) := by decide +kernel
theorem dX6_startText_20 : decode cX6_startText 20 = .ok (.aload_n 0, 1) := by decide +kernel
theorem dX6_startText_21 : decode cX6_startText 21 = .ok (.invokevirtual 57, 3) := by decide +kernel
theorem dX6_startText_24 : decode cX6_startText 24 = .ok (.return_, 1) := by decide +kernel
theorem dX7_addName_0 : decode cX7_addName 0 = .ok (.aload_n 0, 1) := by decide +kernel
theorem dX7_addName_1 : decode cX7_addName 1 = .ok (.getfield 43, 3) := by decide +kernel
theorem dX7_addName_4 : decode cX7_addName 4 = .ok (.bipush 9, 2) := by decide +kernel
theorem dX7_addName_6 : decode cX7_addName 6 = .ok (.if_icmp .ge 53, 3) := by decide +kernel
theorem dX7_addName_9 : decode cX7_addName 9 = .ok (.aload_n 0, 1) := by decide +kernel
theorem dX7_addName_10 : decode cX7_addName 10 = .ok (.getfield 9, 3) := by decide +kernel
theorem dX7_addName_13 : decode cX7_addName 13 = .ok (.aload_n 0, 1) := by decide +kernel
theorem dX7_addName_14 : decode cX7_addName 14 = .ok (.getfield 43, 3) := by decide +kernel
theorem dX7_addName_17 : decode cX7_addName 17 = .ok (.lload_n 1, 1) := by decide +kernel
theorem dX7_addName_18 : decode cX7_addName 18 = .ok (.lastore, 1) := by decide +kernel
theorem dX7_addName_19 : decode cX7_addName 19 = .ok (.aload_n 0, 1) := by decide +kernel
theorem dX7_addName_20 : decode cX7_addName 20 = .ok (.getfield 15, 3) := by decide +kernel
theorem dX7_addName_23 : decode cX7_addName 23 = .ok (.aload_n 0, 1) := by decide +kernel
theorem dX7_addName_24 : decode cX7_addName 24 = .ok (.getfield 43, 3) := by decide +kernel
theorem dX7_addName_27 : decode cX7_addName 27 = .ok (.iload_n 3, 1) := by decide +kernel
theorem dX7_addName_28 : decode cX7_addName 28 = .ok (.iastore, 1) := by decide +kernel
theorem dX7_addName_29 : decode cX7_addName 29 = .ok (.aload_n 0, 1) := by decide +kernel
theorem dX7_addName_30 : decode cX7_addName 30 = .ok (.getfield 19, 3) := by decide +kernel
theorem dX7_addName_33 : decode cX7_addName 33 = .ok (.aload_n 0, 1) := by decide +kernel
theorem dX7_addName_34 : decode cX7_addName 34 = .ok (.getfield 43, 3) := by decide +kernel
theorem dX7_addName_37 : decode cX7_addName 37 = .ok (.iconst (-1), 1) := by decide +kernel
theorem dX7_addName_38 : decode cX7_addName 38 = .ok (.iastore, 1) := by decide +kernel
theorem dX7_addName_39 : decode cX7_addName 39 = .ok (.aload_n 0, 1) := by decide +kernel
theorem dX7_addName_40 : decode cX7_addName 40 = .ok (.getfield 22, 3) := by decide +kernel
theorem dX7_addName_43 : decode cX7_addName 43 = .ok (.aload_n 0, 1) := by decide +kernel
theorem dX7_addName_44 : decode cX7_addName 44 = .ok (.getfield 43, 3) := by decide +kernel
theorem dX7_addName_47 : decode cX7_addName 47 = .ok (.iconst (-1), 1) := by decide +kernel
theorem dX7_addName_48 : decode cX7_addName 48 = .ok (.iastore, 1) := by decide +kernel
theorem dX7_addName_49 : decode cX7_addName 49 = .ok (.aload_n 0, 1) := by decide +kernel
theorem dX7_addName_50 : decode cX7_addName 50 = .ok (.dup, 1) := by decide +kernel
theorem dX7_addName_51 : decode cX7_addName 51 = .ok (.getfield 43, 3) := by decide +kernel
theorem dX7_addName_54 : decode cX7_addName 54 = .ok (.iconst 1, 1) := by decide +kernel
theorem dX7_addName_55 : decode cX7_addName 55 = .ok (.iadd, 1) := by decide +kernel
theorem dX7_addName_56 : decode cX7_addName 56 = .ok (.putfield 43, 3) := by decide +kernel
theorem dX7_addName_59 : decode cX7_addName 59 = .ok (.return_, 1) := by decide +kernel
theorem dX7_addSoul_0 : decode cX7_addSoul 0 = .ok (.aload_n 0, 1) := by decide +kernel
theorem dX7_addSoul_1 : decode cX7_addSoul 1 = .ok (.getfield 47, 3) := by decide +kernel
theorem dX7_addSoul_4 : decode cX7_addSoul 4 = .ok (.bipush 9, 2) := by decide +kernel
theorem dX7_addSoul_6 : decode cX7_addSoul 6 = .ok (.if_icmp .ge 95, 3) := by decide +kernel
theorem dX7_addSoul_9 : decode cX7_addSoul 9 = .ok (.aload_n 0, 1) := by decide +kernel
theorem dX7_addSoul_10 : decode cX7_addSoul 10 = .ok (.getfield 25, 3) := by decide +kernel
theorem dX7_addSoul_13 : decode cX7_addSoul 13 = .ok (.aload_n 0, 1) := by decide +kernel
theorem dX7_addSoul_14 : decode cX7_addSoul 14 = .ok (.getfield 47, 3) := by decide +kernel
theorem dX7_addSoul_17 : decode cX7_addSoul 17 = .ok (.lload_n 1, 1) := by decide +kernel
theorem dX7_addSoul_18 : decode cX7_addSoul 18 = .ok (.lastore, 1) := by decide +kernel
theorem dX7_addSoul_19 : decode cX7_addSoul 19 = .ok (.aload_n 0, 1) := by decide +kernel
theorem dX7_addSoul_20 : decode cX7_addSoul 20 = .ok (.getfield 28, 3) := by decide +kernel
theorem dX7_addSoul_23 : decode cX7_addSoul 23 = .ok (.aload_n 0, 1) := by decide +kernel
theorem dX7_addSoul_24 : decode cX7_addSoul 24 = .ok (.getfield 47, 3) := by decide +kernel
theorem dX7_addSoul_27 : decode cX7_addSoul 27 = .ok (.iload_n 3, 1) := by decide +kernel
theorem dX7_addSoul_28 : decode cX7_addSoul 28 = .ok (.iastore, 1) := by decide +kernel
theorem dX7_addSoul_29 : decode cX7_addSoul 29 = .ok (.aload_n 0, 1) := by decide +kernel
theorem dX7_addSoul_30 : decode cX7_addSoul 30 = .ok (.getfield 31, 3) := by decide +kernel
theorem dX7_addSoul_33 : decode cX7_addSoul 33 = .ok (.aload_n 0, 1) := by decide +kernel
theorem dX7_addSoul_34 : decode cX7_addSoul 34 = .ok (.getfield 47, 3) := by decide +kernel
theorem dX7_addSoul_37 : decode cX7_addSoul 37 = .ok (.iconst (-1), 1) := by decide +kernel
theorem dX7_addSoul_38 : decode cX7_addSoul 38 = .ok (.iastore, 1) := by decide +kernel
theorem dX7_addSoul_39 : decode cX7_addSoul 39 = .ok (.aload_n 0, 1) := by decide +kernel
theorem dX7_addSoul_40 : decode cX7_addSoul 40 = .ok (.getfield 34, 3) := by decide +kernel
theorem dX7_addSoul_43 : decode cX7_addSoul 43 = .ok (.aload_n 0, 1) := by decide +kernel
theorem dX7_addSoul_44 : decode cX7_addSoul 44 = .ok (.getfield 47, 3) := by decide +kernel
theorem dX7_addSoul_47 : decode cX7_addSoul 47 = .ok (.iconst (-1), 1) := by decide +kernel
theorem dX7_addSoul_48 : decode cX7_addSoul 48 = .ok (.iastore, 1) := by decide +kernel
theorem dX7_addSoul_49 : decode cX7_addSoul 49 = .ok (.aload_n 0, 1) := by decide +kernel
theorem dX7_addSoul_50 : decode cX7_addSoul 50 = .ok (.getfield 37, 3) := by decide +kernel
theorem dX7_addSoul_53 : decode cX7_addSoul 53 = .ok (.aload_n 0, 1) := by decide +kernel
theorem dX7_addSoul_54 : decode cX7_addSoul 54 = .ok (.getfield 47, 3) := by decide +kernel
theorem dX7_addSoul_57 : decode cX7_addSoul 57 = .ok (.iconst (-1), 1) := by decide +kernel
theorem dX7_addSoul_58 : decode cX7_addSoul 58 = .ok (.iastore, 1) := by decide +kernel
theorem dX7_addSoul_59 : decode cX7_addSoul 59 = .ok (.iconst 0, 1) := by decide +kernel
theorem dX7_addSoul_60 : decode cX7_addSoul 60 = .ok (.istore 4, 2) := by decide +kernel
theorem dX7_addSoul_62 : decode cX7_addSoul 62 = .ok (.iload 4, 2) := by decide +kernel
theorem dX7_addSoul_64 : decode cX7_addSoul 64 = .ok (.bipush 9, 2) := by decide +kernel
theorem dX7_addSoul_66 : decode cX7_addSoul 66 = .ok (.if_icmp .ge 25, 3) := by decide +kernel
theorem dX7_addSoul_69 : decode cX7_addSoul 69 = .ok (.aload_n 0, 1) := by decide +kernel
theorem dX7_addSoul_70 : decode cX7_addSoul 70 = .ok (.getfield 40, 3) := by decide +kernel
theorem dX7_addSoul_73 : decode cX7_addSoul 73 = .ok (.aload_n 0, 1) := by decide +kernel
theorem dX7_addSoul_74 : decode cX7_addSoul 74 = .ok (.getfield 47, 3) := by decide +kernel
theorem dX7_addSoul_77 : decode cX7_addSoul 77 = .ok (.bipush 9, 2) := by decide +kernel
theorem dX7_addSoul_79 : decode cX7_addSoul 79 = .ok (.imul, 1) := by decide +kernel
theorem dX7_addSoul_80 : decode cX7_addSoul 80 = .ok (.iload 4, 2) := by decide +kernel
theorem dX7_addSoul_82 : decode cX7_addSoul 82 = .ok (.iadd, 1) := by decide +kernel
theorem dX7_addSoul_83 : decode cX7_addSoul 83 = .ok (.iconst 0, 1) := by decide +kernel
theorem dX7_addSoul_84 : decode cX7_addSoul 84 = .ok (.iastore, 1) := by decide +kernel
theorem dX7_addSoul_85 : decode cX7_addSoul 85 = .ok (.iinc 4 1, 3) := by decide +kernel
theorem dX7_addSoul_88 : decode cX7_addSoul 88 = .ok (.goto (-26), 3) := by decide +kernel
theorem dX7_addSoul_91 : decode cX7_addSoul 91 = .ok (.aload_n 0, 1) := by decide +kernel
theorem dX7_addSoul_92 : decode cX7_addSoul 92 = .ok (.dup, 1) := by decide +kernel
theorem dX7_addSoul_93 : decode cX7_addSoul 93 = .ok (.getfield 47, 3) := by decide +kernel
theorem dX7_addSoul_96 : decode cX7_addSoul 96 = .ok (.iconst 1, 1) := by decide +kernel
theorem dX7_addSoul_97 : decode cX7_addSoul 97 = .ok (.iadd, 1) := by decide +kernel
theorem dX7_addSoul_98 : decode cX7_addSoul 98 = .ok (.putfield 47, 3) := by decide +kernel
theorem dX7_addSoul_101 : decode cX7_addSoul 101 = .ok (.return_, 1) := by decide +kernel
theorem dX7_clear_0 : decode cX7_clear 0 = .ok (.aload_n 0, 1) := by decide +kernel
theorem dX7_clear_1 : decode cX7_clear 1 = .ok (.iconst 0, 1) := by decide +kernel
theorem dX7_clear_2 : decode cX7_clear 2 = .ok (.putfield 43, 3) := by decide +kernel
theorem dX7_clear_5 : decode cX7_clear 5 = .ok (.aload_n 0, 1) := by decide +kernel
theorem dX7_clear_6 : decode cX7_clear 6 = .ok (.iconst 0, 1) := by decide +kernel
theorem dX7_clear_7 : decode cX7_clear 7 = .ok (.putfield 47, 3) := by decide +kernel
theorem dX7_clear_10 : decode cX7_clear 10 = .ok (.return_, 1) := by decide +kernel
theorem dX7_copyFrom_0 : decode cX7_copyFrom 0 = .ok (.aload_n 0, 1) := by decide +kernel
theorem dX7_copyFrom_1 : decode cX7_copyFrom 1 = .ok (.aload_n 1, 1) := by decide +kernel
theorem dX7_copyFrom_2 : decode cX7_copyFrom 2 = .ok (.getfield 43, 3) := by decide +kernel
theorem dX7_copyFrom_5 : decode cX7_copyFrom 5 = .ok (.putfield 43, 3) := by decide +kernel
theorem dX7_copyFrom_8 : decode cX7_copyFrom 8 = .ok (.aload_n 0, 1) := by decide +kernel
theorem dX7_copyFrom_9 : decode cX7_copyFrom 9 = .ok (.aload_n 1, 1) := by decide +kernel
theorem dX7_copyFrom_10 : decode cX7_copyFrom 10 = .ok (.getfield 47, 3) := by decide +kernel
theorem dX7_copyFrom_13 : decode cX7_copyFrom 13 = .ok (.putfield 47, 3) := by decide +kernel
theorem dX7_copyFrom_16 : decode cX7_copyFrom 16 = .ok (.aload_n 1, 1) := by decide +kernel
theorem dX7_copyFrom_17 : decode cX7_copyFrom 17 = .ok (.getfield 9, 3) := by decide +kernel
theorem dX7_copyFrom_20 : decode cX7_copyFrom 20 = .ok (.aload_n 0, 1) := by decide +kernel
theorem dX7_copyFrom_21 : decode cX7_copyFrom 21 = .ok (.getfield 9, 3) := by decide +kernel
theorem dX7_copyFrom_24 : decode cX7_copyFrom 24 = .ok (.invokestatic 50, 3) := by decide +kernel
theorem dX7_copyFrom_27 : decode cX7_copyFrom 27 = .ok (.aload_n 1, 1) := by decide +kernel
theorem dX7_copyFrom_28 : decode cX7_copyFrom 28 = .ok (.getfield 15, 3) := by decide +kernel
theorem dX7_copyFrom_31 : decode cX7_copyFrom 31 = .ok (.aload_n 0, 1) := by decide +kernel
theorem dX7_copyFrom_32 : decode cX7_copyFrom 32 = .ok (.getfield 15, 3) := by decide +kernel
theorem dX7_copyFrom_35 : decode cX7_copyFrom 35 = .ok (.invokestatic 54, 3) := by decide +kernel
theorem dX7_copyFrom_38 : decode cX7_copyFrom 38 = .ok (.aload_n 1, 1) := by decide +kernel
theorem dX7_copyFrom_39 : decode cX7_copyFrom 39 = .ok (.getfield 19, 3) := by decide +kernel
theorem dX7_copyFrom_42 : decode cX7_copyFrom 42 = .ok (.aload_n 0, 1) := by decide +kernel
theorem dX7_copyFrom_43 : decode cX7_copyFrom 43 = .ok (.getfield 19, 3) := by decide +kernel
theorem dX7_copyFrom_46 : decode cX7_copyFrom 46 = .ok (.invokestatic 54, 3) := by decide +kernel
theorem dX7_copyFrom_49 : decode cX7_copyFrom 49 = .ok (.aload_n 1, 1) := by decide +kernel
theorem dX7_copyFrom_50 : decode cX7_copyFrom 50 = .ok (.getfield 22, 3) := by decide +kernel
theorem dX7_copyFrom_53 : decode cX7_copyFrom 53 = .ok (.aload_n 0, 1) := by decide +kernel
theorem dX7_copyFrom_54 : decode cX7_copyFrom 54 = .ok (.getfield 22, 3) := by decide +kernel
theorem dX7_copyFrom_57 : decode cX7_copyFrom 57 = .ok (.invokestatic 54, 3) := by decide +kernel
theorem dX7_copyFrom_60 : decode cX7_copyFrom 60 = .ok (.aload_n 1, 1) := by decide +kernel
theorem dX7_copyFrom_61 : decode cX7_copyFrom 61 = .ok (.getfield 25, 3) := by decide +kernel
theorem dX7_copyFrom_64 : decode cX7_copyFrom 64 = .ok (.aload_n 0, 1) := by decide +kernel
theorem dX7_copyFrom_65 : decode cX7_copyFrom 65 = .ok (.getfield 25, 3) := by decide +kernel
theorem dX7_copyFrom_68 : decode cX7_copyFrom 68 = .ok (.invokestatic 50, 3) := by decide +kernel
theorem dX7_copyFrom_71 : decode cX7_copyFrom 71 = .ok (.aload_n 1, 1) := by decide +kernel
theorem dX7_copyFrom_72 : decode cX7_copyFrom 72 = .ok (.getfield 28, 3) := by decide +kernel
theorem dX7_copyFrom_75 : decode cX7_copyFrom 75 = .ok (.aload_n 0, 1) := by decide +kernel
theorem dX7_copyFrom_76 : decode cX7_copyFrom 76 = .ok (.getfield 28, 3) := by decide +kernel
theorem dX7_copyFrom_79 : decode cX7_copyFrom 79 = .ok (.invokestatic 54, 3) := by decide +kernel
theorem dX7_copyFrom_82 : decode cX7_copyFrom 82 = .ok (.aload_n 1, 1) := by decide +kernel
theorem dX7_copyFrom_83 : decode cX7_copyFrom 83 = .ok (.getfield 31, 3) := by decide +kernel
theorem dX7_copyFrom_86 : decode cX7_copyFrom 86 = .ok (.aload_n 0, 1) := by decide +kernel
theorem dX7_copyFrom_87 : decode cX7_copyFrom 87 = .ok (.getfield 31, 3) := by decide +kernel
theorem dX7_copyFrom_90 : decode cX7_copyFrom 90 = .ok (.invokestatic 54, 3) := by decide +kernel
theorem dX7_copyFrom_93 : decode cX7_copyFrom 93 = .ok (.aload_n 1, 1) := by decide +kernel
theorem dX7_copyFrom_94 : decode cX7_copyFrom 94 = .ok (.getfield 34, 3) := by decide +kernel
theorem dX7_copyFrom_97 : decode cX7_copyFrom 97 = .ok (.aload_n 0, 1) := by decide +kernel
theorem dX7_copyFrom_98 : decode cX7_copyFrom 98 = .ok (.getfield 34, 3) := by decide +kernel
theorem dX7_copyFrom_101 : decode cX7_copyFrom 101 = .ok (.invokestatic 54, 3) := by decide +kernel
theorem dX7_copyFrom_104 : decode cX7_copyFrom 104 = .ok (.aload_n 1, 1) := by decide +kernel
theorem dX7_copyFrom_105 : decode cX7_copyFrom 105 = .ok (.getfield 37, 3) := by decide +kernel
theorem dX7_copyFrom_108 : decode cX7_copyFrom 108 = .ok (.aload_n 0, 1) := by decide +kernel
theorem dX7_copyFrom_109 : decode cX7_copyFrom 109 = .ok (.getfield 37, 3) := by decide +kernel
theorem dX7_copyFrom_112 : decode cX7_copyFrom 112 = .ok (.invokestatic 54, 3) := by decide +kernel
theorem dX7_copyFrom_115 : decode cX7_copyFrom 115 = .ok (.aload_n 1, 1) := by decide +kernel
theorem dX7_copyFrom_116 : decode cX7_copyFrom 116 = .ok (.getfield 40, 3) := by decide +kernel
theorem dX7_copyFrom_119 : decode cX7_copyFrom 119 = .ok (.aload_n 0, 1) := by decide +kernel
theorem dX7_copyFrom_120 : decode cX7_copyFrom 120 = .ok (.getfield 40, 3) := by decide +kernel
theorem dX7_copyFrom_123 : decode cX7_copyFrom 123 = .ok (.invokestatic 54, 3) := by decide +kernel
theorem dX7_copyFrom_126 : decode cX7_copyFrom 126 = .ok (.return_, 1) := by decide +kernel
theorem dX7_find_0 : decode cX7_find 0 = .ok (.iconst 0, 1) := by decide +kernel
theorem dX7_find_1 : decode cX7_find 1 = .ok (.istore 4, 2) := by decide +kernel
theorem dX7_find_3 : decode cX7_find 3 = .ok (.iload 4, 2) := by decide +kernel
theorem dX7_find_5 : decode cX7_find 5 = .ok (.iload_n 3, 1) := by decide +kernel
theorem dX7_find_6 : decode cX7_find 6 = .ok (.if_icmp .ge 28, 3) := by decide +kernel
theorem dX7_find_9 : decode cX7_find 9 = .ok (.iload 4, 2) := by decide +kernel
theorem dX7_find_11 : decode cX7_find 11 = .ok (.aload_n 2, 1) := by decide +kernel
theorem dX7_find_12 : decode cX7_find 12 = .ok (.arraylength, 1) := by decide +kernel
theorem dX7_find_13 : decode cX7_find 13 = .ok (.if_icmp .ge 21, 3) := by decide +kernel
theorem dX7_find_16 : decode cX7_find 16 = .ok (.aload_n 2, 1) := by decide +kernel
theorem dX7_find_17 : decode cX7_find 17 = .ok (.iload 4, 2) := by decide +kernel
theorem dX7_find_19 : decode cX7_find 19 = .ok (.laload, 1) := by decide +kernel
theorem dX7_find_20 : decode cX7_find 20 = .ok (.lload_n 0, 1) := by decide +kernel
theorem dX7_find_21 : decode cX7_find 21 = .ok (.lcmp, 1) := by decide +kernel
theorem dX7_find_22 : decode cX7_find 22 = .ok (.ifCond .ne 6, 3) := by decide +kernel
theorem dX7_find_25 : decode cX7_find 25 = .ok (.iload 4, 2) := by decide +kernel
theorem dX7_find_27 : decode cX7_find 27 = .ok (.ireturn, 1) := by decide +kernel
theorem dX7_find_28 : decode cX7_find 28 = .ok (.iinc 4 1, 3) := by decide +kernel
theorem dX7_find_31 : decode cX7_find 31 = .ok (.goto (-28), 3) := by decide +kernel
theorem dX7_find_34 : decode cX7_find 34 = .ok (.iconst (-1), 1) := by decide +kernel
theorem dX7_find_35 : decode cX7_find 35 = .ok (.ireturn, 1) := by decide +kernel
theorem dX7_findName_0 : decode cX7_findName 0 = .ok (.lload_n 1, 1) := by decide +kernel
theorem dX7_findName_1 : decode cX7_findName 1 = .ok (.aload_n 0, 1) := by decide +kernel
theorem dX7_findName_2 : decode cX7_findName 2 = .ok (.getfield 9, 3) := by decide +kernel
theorem dX7_findName_5 : decode cX7_findName 5 = .ok (.aload_n 0, 1) := by decide +kernel
theorem dX7_findName_6 : decode cX7_findName 6 = .ok (.getfield 43, 3) := by decide +kernel
theorem dX7_findName_9 : decode cX7_findName 9 = .ok (.invokestatic 57, 3) := by decide +kernel
theorem dX7_findName_12 : decode cX7_findName 12 = .ok (.ireturn, 1) := by decide +kernel
theorem dX7_findSoul_0 : decode cX7_findSoul 0 = .ok (.lload_n 1, 1) := by decide +kernel
theorem dX7_findSoul_1 : decode cX7_findSoul 1 = .ok (.aload_n 0, 1) := by decide +kernel
theorem dX7_findSoul_2 : decode cX7_findSoul 2 = .ok (.getfield 25, 3) := by decide +kernel
theorem dX7_findSoul_5 : decode cX7_findSoul 5 = .ok (.aload_n 0, 1) := by decide +kernel
theorem dX7_findSoul_6 : decode cX7_findSoul 6 = .ok (.getfield 47, 3) := by decide +kernel
theorem dX7_findSoul_9 : decode cX7_findSoul 9 = .ok (.invokestatic 57, 3) := by decide +kernel
theorem dX7_findSoul_12 : decode cX7_findSoul 12 = .ok (.ireturn, 1) := by decide +kernel
