theorem dX5_readCond_68 : decode cX5_readCond 68 = .ok (.ireturn, 1) := by decide +kernel
theorem dX5_readOne_0 : decode cX5_readOne 0 = .ok (.aload_n 0, 1) := by decide +kernel
theorem dX5_readOne_1 : decode cX5_readOne 1 = .ok (.invokevirtual 80, 3) := by decide +kernel
theorem dX5_readOne_4 : decode cX5_readOne 4 = .ok (.istore_n 2, 1) := by decide +kernel
theorem dX5_readOne_5 : decode cX5_readOne 5 = .ok (.aload_n 0, 1) := by decide +kernel
theorem dX5_readOne_6 : decode cX5_readOne 6 = .ok (.getfield 24, 3) := by decide +kernel
theorem dX5_readOne_9 : decode cX5_readOne 9 = .ok (.ldc 84, 2) := by decide +kernel
theorem dX5_readOne_11 : decode cX5_readOne 11 = .ok (.invokevirtual 64, 3) := by decide +kernel
theorem dX5_readOne_14 : decode cX5_readOne 14 = .ok (.istore_n 3, 1) := by decide +kernel
theorem dX5_readOne_15 : decode cX5_readOne 15 = .ok (.aload_n 0, 1) := by decide +kernel
theorem dX5_readOne_16 : decode cX5_readOne 16 = .ok (.getfield 24, 3) := by decide +kernel
theorem dX5_readOne_19 : decode cX5_readOne 19 = .ok (.bipush 40, 2) := by decide +kernel
theorem dX5_readOne_21 : decode cX5_readOne 21 = .ok (.invokevirtual 86, 3) := by decide +kernel
theorem dX5_readOne_24 : decode cX5_readOne 24 = .ok (.istore 4, 2) := by decide +kernel
theorem dX5_readOne_26 : decode cX5_readOne 26 = .ok (.iload_n 2, 1) := by decide +kernel
theorem dX5_readOne_27 : decode cX5_readOne 27 = .ok (.iconst (-1), 1) := by decide +kernel
theorem dX5_readOne_28 : decode cX5_readOne 28 = .ok (.if_icmp .ne 21, 3) := by decide +kernel
theorem dX5_readOne_31 : decode cX5_readOne 31 = .ok (.iload_n 3, 1) := by decide +kernel
theorem dX5_readOne_32 : decode cX5_readOne 32 = .ok (.ifCond .ne 17, 3) := by decide +kernel
theorem dX5_readOne_35 : decode cX5_readOne 35 = .ok (.iload 4, 2) := by decide +kernel
theorem dX5_readOne_37 : decode cX5_readOne 37 = .ok (.ifCond .ne 12, 3) := by decide +kernel
theorem dX5_readOne_40 : decode cX5_readOne 40 = .ok (.aload_n 0, 1) := by decide +kernel
theorem dX5_readOne_41 : decode cX5_readOne 41 = .ok (.getfield 24, 3) := by decide +kernel
theorem dX5_readOne_44 : decode cX5_readOne 44 = .ok (.iconst 1, 1) := by decide +kernel
theorem dX5_readOne_45 : decode cX5_readOne 45 = .ok (.invokevirtual 56, 3) := by decide +kernel
theorem dX5_readOne_48 : decode cX5_readOne 48 = .ok (.ireturn, 1) := by decide +kernel
theorem dX6_advance_0 : decode cX6_advance 0 = .ok (.aload_n 0, 1) := by decide +kernel
theorem dX6_advance_1 : decode cX6_advance 1 = .ok (.getfield 48, 3) := by decide +kernel
theorem dX6_advance_4 : decode cX6_advance 4 = .ok (.aload_n 0, 1) := by decide +kernel
theorem dX6_advance_5 : decode cX6_advance 5 = .ok (.getfield 43, 3) := by decide +kernel
theorem dX6_advance_8 : decode cX6_advance 8 = .ok (.if_icmp .ge 44, 3) := by decide +kernel
theorem dX6_advance_52 : decode cX6_advance 52 = .ok (.aload_n 0, 1) := by decide +kernel
theorem dX6_advance_53 : decode cX6_advance 53 = .ok (.getfield 48, 3) := by decide +kernel
theorem dX6_advance_56 : decode cX6_advance 56 = .ok (.aload_n 0, 1) := by decide +kernel
theorem dX6_advance_57 : decode cX6_advance 57 = .ok (.getfield 43, 3) := by decide +kernel
theorem dX6_advance_60 : decode cX6_advance 60 = .ok (.if_icmp .ge 14, 3) := by decide +kernel
theorem dX6_advance_74 : decode cX6_advance 74 = .ok (.aload_n 0, 1) := by decide +kernel
theorem dX6_advance_75 : decode cX6_advance 75 = .ok (.aload_n 0, 1) := by decide +kernel
theorem dX6_advance_76 : decode cX6_advance 76 = .ok (.getfield 43, 3) := by decide +kernel
theorem dX6_advance_79 : decode cX6_advance 79 = .ok (.aload_n 0, 1) := by decide +kernel
theorem dX6_advance_80 : decode cX6_advance 80 = .ok (.getfield 45, 3) := by decide +kernel
theorem dX6_advance_83 : decode cX6_advance 83 = .ok (.if_icmp .le 7, 3) := by decide +kernel
theorem dX6_advance_90 : decode cX6_advance 90 = .ok (.iconst 0, 1) := by decide +kernel
theorem dX6_advance_91 : decode cX6_advance 91 = .ok (.putfield 60, 3) := by decide +kernel
theorem dX6_advance_94 : decode cX6_advance 94 = .ok (.aload_n 0, 1) := by decide +kernel
theorem dX6_advance_95 : decode cX6_advance 95 = .ok (.aload_n 0, 1) := by decide +kernel
theorem dX6_advance_96 : decode cX6_advance 96 = .ok (.getfield 43, 3) := by decide +kernel
theorem dX6_advance_99 : decode cX6_advance 99 = .ok (.aload_n 0, 1) := by decide +kernel
theorem dX6_advance_100 : decode cX6_advance 100 = .ok (.getfield 45, 3) := by decide +kernel
theorem dX6_advance_103 : decode cX6_advance 103 = .ok (.if_icmp .le 10, 3) := by decide +kernel
theorem dX6_advance_113 : decode cX6_advance 113 = .ok (.aload_n 0, 1) := by decide +kernel
theorem dX6_advance_114 : decode cX6_advance 114 = .ok (.getfield 43, 3) := by decide +kernel
theorem dX6_advance_117 : decode cX6_advance 117 = .ok (.putfield 63, 3) := by decide +kernel
theorem dX6_advance_120 : decode cX6_advance 120 = .ok (.return_, 1) := by decide +kernel
theorem dX6_hasRoom_0 : decode cX6_hasRoom 0 = .ok (.aload_n 0, 1) := by decide +kernel
theorem dX6_hasRoom_1 : decode cX6_hasRoom 1 = .ok (.getfield 43, 3) := by decide +kernel
theorem dX6_hasRoom_4 : decode cX6_hasRoom 4 = .ok (.iload_n 1, 1) := by decide +kernel
theorem dX6_hasRoom_5 : decode cX6_hasRoom 5 = .ok (.iadd, 1) := by decide +kernel
theorem dX6_hasRoom_6 : decode cX6_hasRoom 6 = .ok (.sipush 940, 3) := by decide +kernel
theorem dX6_hasRoom_9 : decode cX6_hasRoom 9 = .ok (.if_icmp .gt 7, 3) := by decide +kernel
theorem dX6_hasRoom_12 : decode cX6_hasRoom 12 = .ok (.iconst 1, 1) := by decide +kernel
theorem dX6_hasRoom_13 : decode cX6_hasRoom 13 = .ok (.goto 4, 3) := by decide +kernel
theorem dX6_hasRoom_17 : decode cX6_hasRoom 17 = .ok (.ireturn, 1) := by decide +kernel
theorem dX6_init_0 : decode cX6_init 0 = .ok (.aload_n 0, 1) := by decide +kernel
theorem dX6_init_1 : decode cX6_init 1 = .ok (.invokespecial 3, 3) := by decide +kernel
theorem dX6_init_4 : decode cX6_init 4 = .ok (.aload_n 0, 1) := by decide +kernel
theorem dX6_init_5 : decode cX6_init 5 = .ok (.sipush 940, 3) := by decide +kernel
theorem dX6_init_8 : decode cX6_init 8 = .ok (.newarray .byte, 2) := by decide +kernel
theorem dX6_init_10 : decode cX6_init 10 = .ok (.putfield 11, 3) := by decide +kernel
theorem dX6_init_13 : decode cX6_init 13 = .ok (.aload_n 0, 1) := by decide +kernel
theorem dX6_init_14 : decode cX6_init 14 = .ok (.bipush 27, 2) := by decide +kernel
theorem dX6_init_16 : decode cX6_init 16 = .ok (.newarray .long, 2) := by decide +kernel
theorem dX6_init_18 : decode cX6_init 18 = .ok (.putfield 15, 3) := by decide +kernel
theorem dX6_init_21 : decode cX6_init 21 = .ok (.aload_n 0, 1) := by decide +kernel
theorem dX6_init_22 : decode cX6_init 22 = .ok (.ldc 19, 2) := by decide +kernel
theorem dX6_init_24 : decode cX6_init 24 = .ok (.invokevirtual 21, 3) := by decide +kernel
theorem dX6_init_27 : decode cX6_init 27 = .ok (.aload_n 0, 1) := by decide +kernel
theorem dX6_init_28 : decode cX6_init 28 = .ok (.ldc 25, 2) := by decide +kernel
theorem dX6_init_30 : decode cX6_init 30 = .ok (.invokevirtual 21, 3) := by decide +kernel
theorem dX6_init_33 : decode cX6_init 33 = .ok (.aload_n 0, 1) := by decide +kernel
theorem dX6_init_34 : decode cX6_init 34 = .ok (.ldc 27, 2) := by decide +kernel
theorem dX6_init_36 : decode cX6_init 36 = .ok (.invokevirtual 21, 3) := by decide +kernel
theorem dX6_init_39 : decode cX6_init 39 = .ok (.return_, 1) := by decide +kernel
theorem dX6_isSign_0 : decode cX6_isSign 0 = .ok (.aload_n 0, 1) := by decide +kernel
theorem dX6_isSign_1 : decode cX6_isSign 1 = .ok (.getfield 60, 3) := by decide +kernel
theorem dX6_isSign_4 : decode cX6_isSign 4 = .ok (.iconst 3, 1) := by decide +kernel
theorem dX6_isSign_5 : decode cX6_isSign 5 = .ok (.if_icmp .ne 15, 3) := by decide +kernel
theorem dX6_isSign_20 : decode cX6_isSign 20 = .ok (.iconst 0, 1) := by decide +kernel
theorem dX6_isSign_21 : decode cX6_isSign 21 = .ok (.ireturn, 1) := by decide +kernel
theorem dX6_isWord_0 : decode cX6_isWord 0 = .ok (.lconst 0, 1) := by decide +kernel
theorem dX6_isWord_1 : decode cX6_isWord 1 = .ok (.lstore_n 2, 1) := by decide +kernel
theorem dX6_isWord_2 : decode cX6_isWord 2 = .ok (.iconst 0, 1) := by decide +kernel
theorem dX6_isWord_3 : decode cX6_isWord 3 = .ok (.istore 4, 2) := by decide +kernel
theorem dX6_isWord_5 : decode cX6_isWord 5 = .ok (.iload 4, 2) := by decide +kernel
theorem dX6_isWord_7 : decode cX6_isWord 7 = .ok (.aload_n 1, 1) := by decide +kernel
theorem dX6_isWord_8 : decode cX6_isWord 8 = .ok (.invokevirtual 29, 3) := by decide +kernel
theorem dX6_isWord_11 : decode cX6_isWord 11 = .ok (.if_icmp .ge 22, 3) := by decide +kernel
theorem dX6_isWord_14 : decode cX6_isWord 14 = .ok (.lload_n 2, 1) := by decide +kernel
theorem dX6_isWord_15 : decode cX6_isWord 15 = .ok (.bipush 8, 2) := by decide +kernel
theorem dX6_isWord_17 : decode cX6_isWord 17 = .ok (.lshl, 1) := by decide +kernel
theorem dX6_isWord_18 : decode cX6_isWord 18 = .ok (.aload_n 1, 1) := by decide +kernel
theorem dX6_isWord_19 : decode cX6_isWord 19 = .ok (.iload 4, 2) := by decide +kernel
theorem dX6_isWord_21 : decode cX6_isWord 21 = .ok (.invokevirtual 39, 3) := by decide +kernel
theorem dX6_isWord_24 : decode cX6_isWord 24 = .ok (.i2l, 1) := by decide +kernel
theorem dX6_isWord_25 : decode cX6_isWord 25 = .ok (.lor, 1) := by decide +kernel
theorem dX6_isWord_26 : decode cX6_isWord 26 = .ok (.lstore_n 2, 1) := by decide +kernel
theorem dX6_isWord_27 : decode cX6_isWord 27 = .ok (.iinc 4 1, 3) := by decide +kernel
theorem dX6_isWord_30 : decode cX6_isWord 30 = .ok (.goto (-25), 3) := by decide +kernel
theorem dX6_isWord_33 : decode cX6_isWord 33 = .ok (.aload_n 0, 1) := by decide +kernel
theorem dX6_isWord_34 : decode cX6_isWord 34 = .ok (.getfield 60, 3) := by decide +kernel
theorem dX6_isWord_37 : decode cX6_isWord 37 = .ok (.iconst 1, 1) := by decide +kernel
theorem dX6_isWord_38 : decode cX6_isWord 38 = .ok (.if_icmp .ne 16, 3) := by decide +kernel
theorem dX6_isWord_54 : decode cX6_isWord 54 = .ok (.iconst 0, 1) := by decide +kernel
theorem dX6_isWord_55 : decode cX6_isWord 55 = .ok (.ireturn, 1) := by decide +kernel
theorem dX6_keepOwn_0 : decode cX6_keepOwn 0 = .ok (.lconst 0, 1) := by decide +kernel
theorem dX6_keepOwn_1 : decode cX6_keepOwn 1 = .ok (.lstore_n 2, 1) := by decide +kernel
theorem dX6_keepOwn_2 : decode cX6_keepOwn 2 = .ok (.iconst 0, 1) := by decide +kernel
theorem dX6_keepOwn_3 : decode cX6_keepOwn 3 = .ok (.istore 4, 2) := by decide +kernel
theorem dX6_keepOwn_5 : decode cX6_keepOwn 5 = .ok (.iload 4, 2) := by decide +kernel
theorem dX6_keepOwn_7 : decode cX6_keepOwn 7 = .ok (.aload_n 1, 1) := by decide +kernel
theorem dX6_keepOwn_8 : decode cX6_keepOwn 8 = .ok (.invokevirtual 29, 3) := by decide +kernel
theorem dX6_keepOwn_11 : decode cX6_keepOwn 11 = .ok (.if_icmp .ge 67, 3) := by decide +kernel
theorem dX6_keepOwn_14 : decode cX6_keepOwn 14 = .ok (.aload_n 0, 1) := by decide +kernel
theorem dX6_keepOwn_15 : decode cX6_keepOwn 15 = .ok (.getfield 35, 3) := by decide +kernel
theorem dX6_keepOwn_18 : decode cX6_keepOwn 18 = .ok (.bipush 27, 2) := by decide +kernel
theorem dX6_keepOwn_20 : decode cX6_keepOwn 20 = .ok (.if_icmp .ge 58, 3) := by decide +kernel
theorem dX6_keepOwn_23 : decode cX6_keepOwn 23 = .ok (.aload_n 1, 1) := by decide +kernel
theorem dX6_keepOwn_24 : decode cX6_keepOwn 24 = .ok (.iload 4, 2) := by decide +kernel
theorem dX6_keepOwn_26 : decode cX6_keepOwn 26 = .ok (.invokevirtual 39, 3) := by decide +kernel
theorem dX6_keepOwn_29 : decode cX6_keepOwn 29 = .ok (.bipush 32, 2) := by decide +kernel
theorem dX6_keepOwn_31 : decode cX6_keepOwn 31 = .ok (.if_icmp .ne 28, 3) := by decide +kernel
theorem dX6_keepOwn_34 : decode cX6_keepOwn 34 = .ok (.aload_n 0, 1) := by decide +kernel
theorem dX6_keepOwn_35 : decode cX6_keepOwn 35 = .ok (.getfield 15, 3) := by decide +kernel
theorem dX6_keepOwn_38 : decode cX6_keepOwn 38 = .ok (.aload_n 0, 1) := by decide +kernel
theorem dX6_keepOwn_39 : decode cX6_keepOwn 39 = .ok (.getfield 35, 3) := by decide +kernel
theorem dX6_keepOwn_42 : decode cX6_keepOwn 42 = .ok (.lload_n 2, 1) := by decide +kernel
theorem dX6_keepOwn_43 : decode cX6_keepOwn 43 = .ok (.lastore, 1) := by decide +kernel
theorem dX6_keepOwn_44 : decode cX6_keepOwn 44 = .ok (.aload_n 0, 1) := by decide +kernel
theorem dX6_keepOwn_45 : decode cX6_keepOwn 45 = .ok (.dup, 1) := by decide +kernel
theorem dX6_keepOwn_46 : decode cX6_keepOwn 46 = .ok (.getfield 35, 3) := by decide +kernel
theorem dX6_keepOwn_49 : decode cX6_keepOwn 49 = .ok (.iconst 1, 1) := by decide +kernel
theorem dX6_keepOwn_50 : decode cX6_keepOwn 50 = .ok (.iadd, 1) := by decide +kernel
theorem dX6_keepOwn_51 : decode cX6_keepOwn 51 = .ok (.putfield 35, 3) := by decide +kernel
theorem dX6_keepOwn_54 : decode cX6_keepOwn 54 = .ok (.lconst 0, 1) := by decide +kernel
theorem dX6_keepOwn_55 : decode cX6_keepOwn 55 = .ok (.lstore_n 2, 1) := by decide +kernel
theorem dX6_keepOwn_56 : decode cX6_keepOwn 56 = .ok (.goto 16, 3) := by decide +kernel
theorem dX6_keepOwn_59 : decode cX6_keepOwn 59 = .ok (.lload_n 2, 1) := by decide +kernel
theorem dX6_keepOwn_60 : decode cX6_keepOwn 60 = .ok (.bipush 8, 2) := by decide +kernel
theorem dX6_keepOwn_62 : decode cX6_keepOwn 62 = .ok (.lshl, 1) := by decide +kernel
theorem dX6_keepOwn_63 : decode cX6_keepOwn 63 = .ok (.aload_n 1, 1) := by decide +kernel
theorem dX6_keepOwn_64 : decode cX6_keepOwn 64 = .ok (.iload 4, 2) := by decide +kernel
theorem dX6_keepOwn_66 : decode cX6_keepOwn 66 = .ok (.invokevirtual 39, 3) := by decide +kernel
theorem dX6_keepOwn_69 : decode cX6_keepOwn 69 = .ok (.i2l, 1) := by decide +kernel
theorem dX6_keepOwn_70 : decode cX6_keepOwn 70 = .ok (.lor, 1) := by decide +kernel
theorem dX6_keepOwn_71 : decode cX6_keepOwn 71 = .ok (.lstore_n 2, 1) := by decide +kernel
theorem dX6_keepOwn_72 : decode cX6_keepOwn 72 = .ok (.iinc 4 1, 3) := by decide +kernel
theorem dX6_keepOwn_75 : decode cX6_keepOwn 75 = .ok (.goto (-70), 3) := by decide +kernel
theorem dX6_keepOwn_78 : decode cX6_keepOwn 78 = .ok (.return_, 1) := by decide +kernel
theorem dX6_put_0 : decode cX6_put 0 = .ok (.bipush 24, 2) := by decide +kernel
theorem dX6_put_2 : decode cX6_put 2 = .ok (.istore_n 2, 1) := by decide +kernel
theorem dX6_put_3 : decode cX6_put 3 = .ok (.iload_n 2, 1) := by decide +kernel
theorem dX6_put_4 : decode cX6_put 4 = .ok (.ifCond .lt 42, 3) := by decide +kernel
theorem dX6_put_7 : decode cX6_put 7 = .ok (.aload_n 0, 1) := by decide +kernel
theorem dX6_put_8 : decode cX6_put 8 = .ok (.getfield 43, 3) := by decide +kernel
theorem dX6_put_11 : decode cX6_put 11 = .ok (.sipush 940, 3) := by decide +kernel
theorem dX6_put_14 : decode cX6_put 14 = .ok (.if_icmp .ge 32, 3) := by decide +kernel
theorem dX6_put_17 : decode cX6_put 17 = .ok (.aload_n 0, 1) := by decide +kernel
theorem dX6_put_18 : decode cX6_put 18 = .ok (.getfield 11, 3) := by decide +kernel
theorem dX6_put_21 : decode cX6_put 21 = .ok (.aload_n 0, 1) := by decide +kernel
theorem dX6_put_22 : decode cX6_put 22 = .ok (.getfield 43, 3) := by decide +kernel
theorem dX6_put_25 : decode cX6_put 25 = .ok (.iload_n 1, 1) := by decide +kernel
theorem dX6_put_26 : decode cX6_put 26 = .ok (.iload_n 2, 1) := by decide +kernel
theorem dX6_put_27 : decode cX6_put 27 = .ok (.iushr, 1) := by decide +kernel
theorem dX6_put_28 : decode cX6_put 28 = .ok (.i2b, 1) := by decide +kernel
theorem dX6_put_29 : decode cX6_put 29 = .ok (.bastore, 1) := by decide +kernel
theorem dX6_put_30 : decode cX6_put 30 = .ok (.aload_n 0, 1) := by decide +kernel
theorem dX6_put_31 : decode cX6_put 31 = .ok (.dup, 1) := by decide +kernel
theorem dX6_put_32 : decode cX6_put 32 = .ok (.getfield 43, 3) := by decide +kernel
theorem dX6_put_35 : decode cX6_put 35 = .ok (.iconst 1, 1) := by decide +kernel
theorem dX6_put_36 : decode cX6_put 36 = .ok (.iadd, 1) := by decide +kernel
theorem dX6_put_37 : decode cX6_put 37 = .ok (.putfield 43, 3) := by decide +kernel
theorem dX6_put_40 : decode cX6_put 40 = .ok (.iinc 2 (-8), 3) := by decide +kernel
theorem dX6_put_43 : decode cX6_put 43 = .ok (.goto (-40), 3) := by decide +kernel
theorem dX6_put_46 : decode cX6_put 46 = .ok (.return_, 1) := by decide +kernel
theorem dX6_refuse_0 : decode cX6_refuse 0 = .ok (.aload_n 0, 1) := by decide +kernel
theorem dX6_refuse_1 : decode cX6_refuse 1 = .ok (.iload_n 1, 1) := by decide +kernel
theorem dX6_refuse_2 : decode cX6_refuse 2 = .ok (.putfield 51, 3) := by decide +kernel
theorem dX6_refuse_5 : decode cX6_refuse 5 = .ok (.aload_n 0, 1) := by decide +kernel
theorem dX6_refuse_6 : decode cX6_refuse 6 = .ok (.aload_n 0, 1) := by decide +kernel
theorem dX6_refuse_7 : decode cX6_refuse 7 = .ok (.getfield 63, 3) := by decide +kernel
theorem dX6_refuse_10 : decode cX6_refuse 10 = .ok (.putfield 54, 3) := by decide +kernel
theorem dX6_refuse_13 : decode cX6_refuse 13 = .ok (.iconst 0, 1) := by decide +kernel
theorem dX6_refuse_14 : decode cX6_refuse 14 = .ok (.ireturn, 1) := by decide +kernel
theorem dX6_startText_0 : decode cX6_startText 0 = .ok (.aload_n 0, 1) := by decide +kernel
theorem dX6_startText_1 : decode cX6_startText 1 = .ok (.iload_n 1, 1) := by decide +kernel
theorem dX6_startText_2 : decode cX6_startText 2 = .ok (.putfield 45, 3) := by decide +kernel
theorem dX6_startText_5 : decode cX6_startText 5 = .ok (.aload_n 0, 1) := by decide +kernel
theorem dX6_startText_6 : decode cX6_startText 6 = .ok (.iconst 0, 1) := by decide +kernel
theorem dX6_startText_7 : decode cX6_startText 7 = .ok (.putfield 48, 3) := by decide +kernel
theorem dX6_startText_10 : decode cX6_startText 10 = .ok (.aload_n 0, 1) := by decide +kernel
theorem dX6_startText_11 : decode cX6_startText 11 = .ok (.iconst 0, 1) := by decide +kernel
theorem dX6_startText_12 : decode cX6_startText 12 = .ok (.putfield 51, 3) := by decide +kernel
theorem dX6_startText_15 : decode cX6_startText 15 = .ok (.aload_n 0, 1) := by decide +kernel
theorem dX6_startText_16 : decode cX6_startText 16 = .ok (.iconst 0, 1) := by decide +kernel
theorem dX6_startText_17 : decode cX6_startText 17 = .ok (.putfield 54, 3) := by decide +kernel
theorem dX6_startText_20 : decode cX6_startText 20 = .ok (.aload_n 0, 1) := by decide +kernel
theorem dX6_startText_21 : decode cX6_startText 21 = .ok (.invokevirtual 57, 3) := by decide +kernel
theorem dX6_startText_24 : decode cX6_startText 24 = .ok (.return_, 1) := by decide +kernel
theorem dX7_clear_0 : decode cX7_clear 0 = .ok (.aload_n 0, 1) := by decide +kernel
theorem dX7_clear_1 : decode cX7_clear 1 = .ok (.iconst 0, 1) := by decide +kernel
theorem dX7_clear_2 : decode cX7_clear 2 = .ok (.putfield 43, 3) := by decide +kernel
theorem dX7_clear_5 : decode cX7_clear 5 = .ok (.aload_n 0, 1) := by decide +kernel
theorem dX7_clear_6 : decode cX7_clear 6 = .ok (.iconst 0, 1) := by decide +kernel
theorem dX7_clear_7 : decode cX7_clear 7 = .ok (.putfield 47, 3) := by decide +kernel
theorem dX7_clear_10 : decode cX7_clear 10 = .ok (.return_, 1) := by decide +kernel
theorem dX7_copyFrom_0 : decode cX7_copyFrom 0 = .ok (.aload_n 0, 1) := by decide +kernel
theorem dX7_copyFrom_1 : decode cX7_copyFrom 1 = .ok (.aload_n 1, 1) := by decide +kernel
theorem dX7_copyFrom_2 : decode cX7_copyFrom 2 = .ok (.getfield 43, 3) := by decide +kernel
theorem dX7_copyFrom_5 : decode cX7_copyFrom 5 = .ok (.putfield 43, 3) := by decide +kernel
theorem dX7_copyFrom_8 : decode cX7_copyFrom 8 = .ok (.aload_n 0, 1) := by decide +kernel
theorem dX7_copyFrom_9 : decode cX7_copyFrom 9 = .ok (.aload_n 1, 1) := by decide +kernel
theorem dX7_copyFrom_10 : decode cX7_copyFrom 10 = .ok (.getfield 47, 3) := by decide +kernel
theorem dX7_copyFrom_13 : decode cX7_copyFrom 13 = .ok (.putfield 47, 3) := by decide +kernel
theorem dX7_copyFrom_16 : decode cX7_copyFrom 16 = .ok (.aload_n 1, 1) := by decide +kernel
theorem dX7_copyFrom_17 : decode cX7_copyFrom 17 = .ok (.getfield 9, 3) := by decide +kernel
theorem dX7_copyFrom_20 : decode cX7_copyFrom 20 = .ok (.aload_n 0, 1) := by decide +kernel
theorem dX7_copyFrom_21 : decode cX7_copyFrom 21 = .ok (.getfield 9, 3) := by decide +kernel
theorem dX7_copyFrom_24 : decode cX7_copyFrom 24 = .ok (.invokestatic 50, 3) := by decide +kernel
theorem dX7_copyFrom_27 : decode cX7_copyFrom 27 = .ok (.aload_n 1, 1) := by decide +kernel
theorem dX7_copyFrom_28 : decode cX7_copyFrom 28 = .ok (.getfield 15, 3) := by decide +kernel
theorem dX7_copyFrom_31 : decode cX7_copyFrom 31 = .ok (.aload_n 0, 1) := by decide +kernel
theorem dX7_copyFrom_32 : decode cX7_copyFrom 32 = .ok (.getfield 15, 3) := by decide +kernel
theorem dX7_copyFrom_35 : decode cX7_copyFrom 35 = .ok (.invokestatic 54, 3) := by decide +kernel
theorem dX7_copyFrom_38 : decode cX7_copyFrom 38 = .ok (.aload_n 1, 1) := by decide +kernel
theorem dX7_copyFrom_39 : decode cX7_copyFrom 39 = .ok (.getfield 19, 3) := by decide +kernel
theorem dX7_copyFrom_42 : decode cX7_copyFrom 42 = .ok (.aload_n 0, 1) := by decide +kernel
theorem dX7_copyFrom_43 : decode cX7_copyFrom 43 = .ok (.getfield 19, 3) := by decide +kernel
theorem dX7_copyFrom_46 : decode cX7_copyFrom 46 = .ok (.invokestatic 54, 3) := by decide +kernel
theorem dX7_copyFrom_49 : decode cX7_copyFrom 49 = .ok (.aload_n 1, 1) := by decide +kernel
theorem dX7_copyFrom_50 : decode cX7_copyFrom 50 = .ok (.getfield 22, 3) := by decide +kernel
theorem dX7_copyFrom_53 : decode cX7_copyFrom 53 = .ok (.aload_n 0, 1) := by decide +kernel
theorem dX7_copyFrom_54 : decode cX7_copyFrom 54 = .ok (.getfield 22, 3) := by decide +kernel
theorem dX7_copyFrom_57 : decode cX7_copyFrom 57 = .ok (.invokestatic 54, 3) := by decide +kernel
theorem dX7_copyFrom_60 : decode cX7_copyFrom 60 = .ok (.aload_n 1, 1) := by decide +kernel
theorem dX7_copyFrom_61 : decode cX7_copyFrom 61 = .ok (.getfield 25, 3) := by decide +kernel
theorem dX7_copyFrom_64 : decode cX7_copyFrom 64 = .ok (.aload_n 0, 1) := by decide +kernel
theorem dX7_copyFrom_65 : decode cX7_copyFrom 65 = .ok (.getfield 25, 3) := by decide +kernel
theorem dX7_copyFrom_68 : decode cX7_copyFrom 68 = .ok (.invokestatic 50, 3) := by decide +kernel
theorem dX7_copyFrom_71 : decode cX7_copyFrom 71 = .ok (.aload_n 1, 1) := by decide +kernel
theorem dX7_copyFrom_72 : decode cX7_copyFrom 72 = .ok (.getfield 28, 3) := by decide +kernel
theorem dX7_copyFrom_75 : decode cX7_copyFrom 75 = .ok (.aload_n 0, 1) := by decide +kernel
theorem dX7_copyFrom_76 : decode cX7_copyFrom 76 = .ok (.getfield 28, 3) := by decide +kernel
theorem dX7_copyFrom_79 : decode cX7_copyFrom 79 = .ok (.invokestatic 54, 3) := by decide +kernel
theorem dX7_copyFrom_82 : decode cX7_copyFrom 82 = .ok (.aload_n 1, 1) := by decide +kernel
theorem dX7_copyFrom_83 : decode cX7_copyFrom 83 = .ok (.getfield 31, 3) := by decide +kernel
theorem dX7_copyFrom_86 : decode cX7_copyFrom 86 = .ok (.aload_n 0, 1) := by decide +kernel
theorem dX7_copyFrom_87 : decode cX7_copyFrom 87 = .ok (.getfield 31, 3) := by decide +kernel
theorem dX7_copyFrom_90 : decode cX7_copyFrom 90 = .ok (.invokestatic 54, 3) := by decide +kernel
theorem dX7_copyFrom_93 : decode cX7_copyFrom 93 = .ok (.aload_n 1, 1) := by decide +kernel
theorem dX7_copyFrom_94 : decode cX7_copyFrom 94 = .ok (.getfield 34, 3) := by decide +kernel
theorem dX7_copyFrom_97 : decode cX7_copyFrom 97 = .ok (.aload_n 0, 1) := by decide +kernel
theorem dX7_copyFrom_98 : decode cX7_copyFrom 98 = .ok (.getfield 34, 3) := by decide +kernel
theorem dX7_copyFrom_101 : decode cX7_copyFrom 101 = .ok (.invokestatic 54, 3) := by decide +kernel
theorem dX7_copyFrom_104 : decode cX7_copyFrom 104 = .ok (.aload_n 1, 1) := by decide +kernel
theorem dX7_copyFrom_105 : decode cX7_copyFrom 105 = .ok (.getfield 37, 3) := by decide +kernel
theorem dX7_copyFrom_108 : decode cX7_copyFrom 108 = .ok (.aload_n 0, 1) := by decide +kernel
theorem dX7_copyFrom_109 : decode cX7_copyFrom 109 = .ok (.getfield 37, 3) := by decide +kernel
theorem dX7_copyFrom_112 : decode cX7_copyFrom 112 = .ok (.invokestatic 54, 3) := by decide +kernel
theorem dX7_copyFrom_115 : decode cX7_copyFrom 115 = .ok (.aload_n 1, 1) := by decide +kernel
theorem dX7_copyFrom_116 : decode cX7_copyFrom 116 = .ok (.getfield 40, 3) := by decide +kernel
theorem dX7_copyFrom_119 : decode cX7_copyFrom 119 = .ok (.aload_n 0, 1) := by decide +kernel
theorem dX7_copyFrom_120 : decode cX7_copyFrom 120 = .ok (.getfield 40, 3) := by decide +kernel
theorem dX7_copyFrom_123 : decode cX7_copyFrom 123 = .ok (.invokestatic 54, 3) := by decide +kernel
theorem dX7_copyFrom_126 : decode cX7_copyFrom 126 = .ok (.return_, 1) := by decide +kernel
theorem dX7_init_0 : decode cX7_init 0 = .ok (.aload_n 0, 1) := by decide +kernel
theorem dX7_init_1 : decode cX7_init 1 = .ok (.invokespecial 3, 3) := by decide +kernel
theorem dX7_init_4 : decode cX7_init 4 = .ok (.aload_n 0, 1) := by decide +kernel
theorem dX7_init_5 : decode cX7_init 5 = .ok (.bipush 9, 2) := by decide +kernel
theorem dX7_init_7 : decode cX7_init 7 = .ok (.newarray .long, 2) := by decide +kernel
theorem dX7_init_9 : decode cX7_init 9 = .ok (.putfield 9, 3) := by decide +kernel
theorem dX7_init_12 : decode cX7_init 12 = .ok (.aload_n 0, 1) := by decide +kernel
theorem dX7_init_13 : decode cX7_init 13 = .ok (.bipush 9, 2) := by decide +kernel
theorem dX7_init_15 : decode cX7_init 15 = .ok (.newarray .int, 2) := by decide +kernel
theorem dX7_init_17 : decode cX7_init 17 = .ok (.putfield 15, 3) := by decide +kernel
theorem dX7_init_20 : decode cX7_init 20 = .ok (.aload_n 0, 1) := by decide +kernel
theorem dX7_init_21 : decode cX7_init 21 = .ok (.bipush 9, 2) := by decide +kernel
theorem dX7_init_23 : decode cX7_init 23 = .ok (.newarray .int, 2) := by decide +kernel
theorem dX7_init_25 : decode cX7_init 25 = .ok (.putfield 19, 3) := by decide +kernel
theorem dX7_init_28 : decode cX7_init 28 = .ok (.aload_n 0, 1) := by decide +kernel
theorem dX7_init_29 : decode cX7_init 29 = .ok (.bipush 9, 2) := by decide +kernel
theorem dX7_init_31 : decode cX7_init 31 = .ok (.newarray .int, 2) := by decide +kernel
theorem dX7_init_33 : decode cX7_init 33 = .ok (.putfield 22, 3) := by decide +kernel
theorem dX7_init_36 : decode cX7_init 36 = .ok (.aload_n 0, 1) := by decide +kernel
theorem dX7_init_37 : decode cX7_init 37 = .ok (.bipush 9, 2) := by decide +kernel
theorem dX7_init_39 : decode cX7_init 39 = .ok (.newarray .long, 2) := by decide +kernel
theorem dX7_init_41 : decode cX7_init 41 = .ok (.putfield 25, 3) := by decide +kernel
theorem dX7_init_44 : decode cX7_init 44 = .ok (.aload_n 0, 1) := by decide +kernel
theorem dX7_init_45 : decode cX7_init 45 = .ok (.bipush 9, 2) := by decide +kernel
theorem dX7_init_47 : decode cX7_init 47 = .ok (.newarray .int, 2) := by decide +kernel
theorem dX7_init_49 : decode cX7_init 49 = .ok (.putfield 28, 3) := by decide +kernel
theorem dX7_init_52 : decode cX7_init 52 = .ok (.aload_n 0, 1) := by decide +kernel
theorem dX7_init_53 : decode cX7_init 53 = .ok (.bipush 9, 2) := by decide +kernel
theorem dX7_init_55 : decode cX7_init 55 = .ok (.newarray .int, 2) := by decide +kernel
theorem dX7_init_57 : decode cX7_init 57 = .ok (.putfield 31, 3) := by decide +kernel
theorem dX7_init_60 : decode cX7_init 60 = .ok (.aload_n 0, 1) := by decide +kernel
theorem dX7_init_61 : decode cX7_init 61 = .ok (.bipush 9, 2) := by decide +kernel
theorem dX7_init_63 : decode cX7_init 63 = .ok (.newarray .int, 2) := by decide +kernel
theorem dX7_init_65 : decode cX7_init 65 = .ok (.putfield 34, 3) := by decide +kernel
theorem dX7_init_68 : decode cX7_init 68 = .ok (.aload_n 0, 1) := by decide +kernel
theorem dX7_init_69 : decode cX7_init 69 = .ok (.bipush 9, 2) := by decide +kernel
theorem dX7_init_71 : decode cX7_init 71 = .ok (.newarray .int, 2) := by decide +kernel
theorem dX7_init_73 : decode cX7_init 73 = .ok (.putfield 37, 3) := by decide +kernel
theorem dX7_init_76 : decode cX7_init 76 = .ok (.aload_n 0, 1) := by decide +kernel
theorem dX7_init_77 : decode cX7_init 77 = .ok (.bipush 81, 2) := by decide +kernel
theorem dX7_init_79 : decode cX7_init 79 = .ok (.newarray .int, 2) := by decide +kernel
theorem dX7_init_81 : decode cX7_init 81 = .ok (.putfield 40, 3) := by decide +kernel
theorem dX7_init_84 : decode cX7_init 84 = .ok (.return_, 1) := by decide +kernel
theorem dX7_isName_0 : decode cX7_isName 0 = .ok (.iload_n 1, 1) := by decide +kernel
theorem dX7_isName_1 : decode cX7_isName 1 = .ok (.ifCond .lt 15, 3) := by decide +kernel
theorem dX7_isName_4 : decode cX7_isName 4 = .ok (.iload_n 1, 1) := by decide +kernel
theorem dX7_isName_5 : decode cX7_isName 5 = .ok (.aload_n 0, 1) := by decide +kernel
theorem dX7_isName_6 : decode cX7_isName 6 = .ok (.getfield 43, 3) := by decide +kernel
theorem dX7_isName_9 : decode cX7_isName 9 = .ok (.if_icmp .ge 7, 3) := by decide +kernel
theorem dX7_isName_16 : decode cX7_isName 16 = .ok (.iconst 0, 1) := by decide +kernel
theorem dX7_isName_17 : decode cX7_isName 17 = .ok (.ireturn, 1) := by decide +kernel
theorem dX7_isSoul_0 : decode cX7_isSoul 0 = .ok (.iload_n 1, 1) := by decide +kernel
theorem dX7_isSoul_1 : decode cX7_isSoul 1 = .ok (.ifCond .lt 15, 3) := by decide +kernel
theorem dX7_isSoul_4 : decode cX7_isSoul 4 = .ok (.iload_n 1, 1) := by decide +kernel
theorem dX7_isSoul_5 : decode cX7_isSoul 5 = .ok (.aload_n 0, 1) := by decide +kernel
theorem dX7_isSoul_6 : decode cX7_isSoul 6 = .ok (.getfield 47, 3) := by decide +kernel
theorem dX7_isSoul_9 : decode cX7_isSoul 9 = .ok (.if_icmp .ge 7, 3) := by decide +kernel
theorem dX7_isSoul_16 : decode cX7_isSoul 16 = .ok (.iconst 0, 1) := by decide +kernel
theorem dX7_isSoul_17 : decode cX7_isSoul 17 = .ok (.ireturn, 1) := by decide +kernel
theorem dX8_init_0 : decode cX8_init 0 = .ok (.aload_n 0, 1) := by decide +kernel
theorem dX8_init_1 : decode cX8_init 1 = .ok (.invokespecial 3, 3) := by decide +kernel
theorem dX8_init_4 : decode cX8_init 4 = .ok (.aload_n 0, 1) := by decide +kernel
theorem dX8_init_5 : decode cX8_init 5 = .ok (.aload_n 1, 1) := by decide +kernel
theorem dX8_init_6 : decode cX8_init 6 = .ok (.putfield 9, 3) := by decide +kernel
theorem dX8_init_9 : decode cX8_init 9 = .ok (.aload_n 0, 1) := by decide +kernel
theorem dX8_init_10 : decode cX8_init 10 = .ok (.aload_n 2, 1) := by decide +kernel
theorem dX8_init_11 : decode cX8_init 11 = .ok (.putfield 15, 3) := by decide +kernel
theorem dX8_init_14 : decode cX8_init 14 = .ok (.return_, 1) := by decide +kernel
theorem dX8_read_0 : decode cX8_read 0 = .ok (.aload_n 0, 1) := by decide +kernel
theorem dX8_read_1 : decode cX8_read 1 = .ok (.getfield 15, 3) := by decide +kernel
theorem dX8_read_4 : decode cX8_read 4 = .ok (.invokevirtual 19, 3) := by decide +kernel
theorem dX8_read_7 : decode cX8_read 7 = .ok (.aload_n 0, 1) := by decide +kernel
theorem dX8_read_8 : decode cX8_read 8 = .ok (.getfield 9, 3) := by decide +kernel
theorem dX8_read_11 : decode cX8_read 11 = .ok (.sipush 900, 3) := by decide +kernel
theorem dX8_read_14 : decode cX8_read 14 = .ok (.invokevirtual 24, 3) := by decide +kernel
theorem dX8_read_17 : decode cX8_read 17 = .ok (.aload_n 0, 1) := by decide +kernel
theorem dX8_read_18 : decode cX8_read 18 = .ok (.iconst 0, 1) := by decide +kernel
theorem dX8_read_19 : decode cX8_read 19 = .ok (.putfield 30, 3) := by decide +kernel
theorem dX8_read_22 : decode cX8_read 22 = .ok (.aload_n 0, 1) := by decide +kernel
theorem dX8_read_23 : decode cX8_read 23 = .ok (.getfield 30, 3) := by decide +kernel
theorem dX8_read_26 : decode cX8_read 26 = .ok (.sipush 900, 3) := by decide +kernel
theorem dX8_read_29 : decode cX8_read 29 = .ok (.if_icmp .ge 47, 3) := by decide +kernel
theorem dX8_read_32 : decode cX8_read 32 = .ok (.aload_n 0, 1) := by decide +kernel
theorem dX8_read_33 : decode cX8_read 33 = .ok (.getfield 9, 3) := by decide +kernel
theorem dX8_read_36 : decode cX8_read 36 = .ok (.getfield 34, 3) := by decide +kernel
theorem dX8_read_39 : decode cX8_read 39 = .ok (.ifCond .eq 37, 3) := by decide +kernel
theorem dX8_read_76 : decode cX8_read 76 = .ok (.iconst 1, 1) := by decide +kernel
theorem dX8_read_77 : decode cX8_read 77 = .ok (.ireturn, 1) := by decide +kernel
theorem dX9_forget_0 : decode cX9_forget 0 = .ok (.aload_n 0, 1) := by decide +kernel
theorem dX9_forget_1 : decode cX9_forget 1 = .ok (.iconst 0, 1) := by decide +kernel
theorem dX9_forget_2 : decode cX9_forget 2 = .ok (.putfield 26, 3) := by decide +kernel
theorem dX9_forget_5 : decode cX9_forget 5 = .ok (.return_, 1) := by decide +kernel
theorem dX9_init_0 : decode cX9_init 0 = .ok (.aload_n 0, 1) := by decide +kernel
theorem dX9_init_1 : decode cX9_init 1 = .ok (.invokespecial 1, 3) := by decide +kernel
theorem dX9_init_4 : decode cX9_init 4 = .ok (.aload_n 0, 1) := by decide +kernel
theorem dX9_init_5 : decode cX9_init 5 = .ok (.iconst 4, 1) := by decide +kernel
theorem dX9_init_6 : decode cX9_init 6 = .ok (.anewarray 9, 3) := by decide +kernel
theorem dX9_init_9 : decode cX9_init 9 = .ok (.putfield 11, 3) := by decide +kernel
theorem dX9_init_12 : decode cX9_init 12 = .ok (.iconst 0, 1) := by decide +kernel
theorem dX9_init_13 : decode cX9_init 13 = .ok (.istore_n 2, 1) := by decide +kernel
theorem dX9_init_14 : decode cX9_init 14 = .ok (.iload_n 2, 1) := by decide +kernel
theorem dX9_init_15 : decode cX9_init 15 = .ok (.iconst 4, 1) := by decide +kernel
theorem dX9_init_16 : decode cX9_init 16 = .ok (.if_icmp .ge 23, 3) := by decide +kernel
theorem dX9_init_19 : decode cX9_init 19 = .ok (.aload_n 0, 1) := by decide +kernel
theorem dX9_init_20 : decode cX9_init 20 = .ok (.getfield 11, 3) := by decide +kernel
theorem dX9_init_23 : decode cX9_init 23 = .ok (.iload_n 2, 1) := by decide +kernel
theorem dX9_init_24 : decode cX9_init 24 = .ok (.new 9, 3) := by decide +kernel
theorem dX9_init_27 : decode cX9_init 27 = .ok (.dup, 1) := by decide +kernel
theorem dX9_init_28 : decode cX9_init 28 = .ok (.aload_n 1, 1) := by decide +kernel
theorem dX9_init_29 : decode cX9_init 29 = .ok (.invokespecial 15, 3) := by decide +kernel
theorem dX9_init_32 : decode cX9_init 32 = .ok (.aastore, 1) := by decide +kernel
theorem dX9_init_33 : decode cX9_init 33 = .ok (.iinc 2 1, 3) := by decide +kernel
theorem dX9_init_36 : decode cX9_init 36 = .ok (.goto (-22), 3) := by decide +kernel
theorem dX9_init_39 : decode cX9_init 39 = .ok (.return_, 1) := by decide +kernel
theorem dX9_keep_0 : decode cX9_keep 0 = .ok (.aload_n 0, 1) := by decide +kernel
theorem dX9_keep_1 : decode cX9_keep 1 = .ok (.getfield 11, 3) := by decide +kernel
theorem dX9_keep_4 : decode cX9_keep 4 = .ok (.aload_n 0, 1) := by decide +kernel
theorem dX9_keep_5 : decode cX9_keep 5 = .ok (.getfield 18, 3) := by decide +kernel
theorem dX9_keep_8 : decode cX9_keep 8 = .ok (.aaload, 1) := by decide +kernel
theorem dX9_keep_9 : decode cX9_keep 9 = .ok (.aload_n 1, 1) := by decide +kernel
theorem dX9_keep_10 : decode cX9_keep 10 = .ok (.invokevirtual 22, 3) := by decide +kernel
theorem dX9_keep_13 : decode cX9_keep 13 = .ok (.aload_n 0, 1) := by decide +kernel
theorem dX9_keep_14 : decode cX9_keep 14 = .ok (.aload_n 0, 1) := by decide +kernel
theorem dX9_keep_15 : decode cX9_keep 15 = .ok (.getfield 18, 3) := by decide +kernel
theorem dX9_keep_18 : decode cX9_keep 18 = .ok (.iconst 1, 1) := by decide +kernel
theorem dX9_keep_19 : decode cX9_keep 19 = .ok (.iadd, 1) := by decide +kernel
