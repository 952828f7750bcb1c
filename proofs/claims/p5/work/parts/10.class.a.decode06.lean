theorem dX2_calledThen_28 : decode cX2_calledThen 28 = .ok (.iconst (-1), 1) := by decide +kernel
theorem dX2_calledThen_29 : decode cX2_calledThen 29 = .ok (.ireturn, 1) := by decide +kernel
theorem dX2_copyFrom_0 : decode cX2_copyFrom 0 = .ok (.aload_n 0, 1) := by decide +kernel
theorem dX2_copyFrom_1 : decode cX2_copyFrom 1 = .ok (.aload_n 1, 1) := by decide +kernel
theorem dX2_copyFrom_2 : decode cX2_copyFrom 2 = .ok (.getfield 41, 3) := by decide +kernel
theorem dX2_copyFrom_5 : decode cX2_copyFrom 5 = .ok (.putfield 41, 3) := by decide +kernel
theorem dX2_copyFrom_8 : decode cX2_copyFrom 8 = .ok (.aload_n 0, 1) := by decide +kernel
theorem dX2_copyFrom_9 : decode cX2_copyFrom 9 = .ok (.aload_n 1, 1) := by decide +kernel
theorem dX2_copyFrom_10 : decode cX2_copyFrom 10 = .ok (.getfield 50, 3) := by decide +kernel
theorem dX2_copyFrom_13 : decode cX2_copyFrom 13 = .ok (.putfield 50, 3) := by decide +kernel
theorem dX2_copyFrom_16 : decode cX2_copyFrom 16 = .ok (.aload_n 0, 1) := by decide +kernel
theorem dX2_copyFrom_17 : decode cX2_copyFrom 17 = .ok (.aload_n 1, 1) := by decide +kernel
theorem dX2_copyFrom_18 : decode cX2_copyFrom 18 = .ok (.getfield 53, 3) := by decide +kernel
theorem dX2_copyFrom_21 : decode cX2_copyFrom 21 = .ok (.putfield 53, 3) := by decide +kernel
theorem dX2_copyFrom_24 : decode cX2_copyFrom 24 = .ok (.aload_n 0, 1) := by decide +kernel
theorem dX2_copyFrom_25 : decode cX2_copyFrom 25 = .ok (.aload_n 1, 1) := by decide +kernel
theorem dX2_copyFrom_26 : decode cX2_copyFrom 26 = .ok (.getfield 56, 3) := by decide +kernel
theorem dX2_copyFrom_29 : decode cX2_copyFrom 29 = .ok (.putfield 56, 3) := by decide +kernel
theorem dX2_copyFrom_32 : decode cX2_copyFrom 32 = .ok (.aload_n 0, 1) := by decide +kernel
theorem dX2_copyFrom_33 : decode cX2_copyFrom 33 = .ok (.aload_n 1, 1) := by decide +kernel
theorem dX2_copyFrom_34 : decode cX2_copyFrom 34 = .ok (.getfield 59, 3) := by decide +kernel
theorem dX2_copyFrom_37 : decode cX2_copyFrom 37 = .ok (.putfield 59, 3) := by decide +kernel
theorem dX2_copyFrom_40 : decode cX2_copyFrom 40 = .ok (.aload_n 0, 1) := by decide +kernel
theorem dX2_copyFrom_41 : decode cX2_copyFrom 41 = .ok (.aload_n 1, 1) := by decide +kernel
theorem dX2_copyFrom_42 : decode cX2_copyFrom 42 = .ok (.getfield 62, 3) := by decide +kernel
theorem dX2_copyFrom_45 : decode cX2_copyFrom 45 = .ok (.putfield 62, 3) := by decide +kernel
theorem dX2_copyFrom_48 : decode cX2_copyFrom 48 = .ok (.aload_n 1, 1) := by decide +kernel
theorem dX2_copyFrom_49 : decode cX2_copyFrom 49 = .ok (.getfield 9, 3) := by decide +kernel
theorem dX2_copyFrom_52 : decode cX2_copyFrom 52 = .ok (.aload_n 0, 1) := by decide +kernel
theorem dX2_copyFrom_53 : decode cX2_copyFrom 53 = .ok (.getfield 9, 3) := by decide +kernel
theorem dX2_copyFrom_56 : decode cX2_copyFrom 56 = .ok (.invokestatic 95, 3) := by decide +kernel
theorem dX2_copyFrom_59 : decode cX2_copyFrom 59 = .ok (.aload_n 1, 1) := by decide +kernel
theorem dX2_copyFrom_60 : decode cX2_copyFrom 60 = .ok (.getfield 15, 3) := by decide +kernel
theorem dX2_copyFrom_63 : decode cX2_copyFrom 63 = .ok (.aload_n 0, 1) := by decide +kernel
theorem dX2_copyFrom_64 : decode cX2_copyFrom 64 = .ok (.getfield 15, 3) := by decide +kernel
theorem dX2_copyFrom_67 : decode cX2_copyFrom 67 = .ok (.invokestatic 95, 3) := by decide +kernel
theorem dX2_copyFrom_70 : decode cX2_copyFrom 70 = .ok (.aload_n 1, 1) := by decide +kernel
theorem dX2_copyFrom_71 : decode cX2_copyFrom 71 = .ok (.getfield 18, 3) := by decide +kernel
theorem dX2_copyFrom_74 : decode cX2_copyFrom 74 = .ok (.aload_n 0, 1) := by decide +kernel
theorem dX2_copyFrom_75 : decode cX2_copyFrom 75 = .ok (.getfield 18, 3) := by decide +kernel
theorem dX2_copyFrom_78 : decode cX2_copyFrom 78 = .ok (.invokestatic 95, 3) := by decide +kernel
theorem dX2_copyFrom_81 : decode cX2_copyFrom 81 = .ok (.aload_n 1, 1) := by decide +kernel
theorem dX2_copyFrom_82 : decode cX2_copyFrom 82 = .ok (.getfield 21, 3) := by decide +kernel
theorem dX2_copyFrom_85 : decode cX2_copyFrom 85 = .ok (.aload_n 0, 1) := by decide +kernel
theorem dX2_copyFrom_86 : decode cX2_copyFrom 86 = .ok (.getfield 21, 3) := by decide +kernel
theorem dX2_copyFrom_89 : decode cX2_copyFrom 89 = .ok (.invokestatic 95, 3) := by decide +kernel
theorem dX2_copyFrom_92 : decode cX2_copyFrom 92 = .ok (.aload_n 1, 1) := by decide +kernel
theorem dX2_copyFrom_93 : decode cX2_copyFrom 93 = .ok (.getfield 24, 3) := by decide +kernel
theorem dX2_copyFrom_96 : decode cX2_copyFrom 96 = .ok (.aload_n 0, 1) := by decide +kernel
theorem dX2_copyFrom_97 : decode cX2_copyFrom 97 = .ok (.getfield 24, 3) := by decide +kernel
theorem dX2_copyFrom_100 : decode cX2_copyFrom 100 = .ok (.invokestatic 95, 3) := by decide +kernel
theorem dX2_copyFrom_103 : decode cX2_copyFrom 103 = .ok (.aload_n 1, 1) := by decide +kernel
theorem dX2_copyFrom_104 : decode cX2_copyFrom 104 = .ok (.getfield 27, 3) := by decide +kernel
theorem dX2_copyFrom_107 : decode cX2_copyFrom 107 = .ok (.aload_n 0, 1) := by decide +kernel
theorem dX2_copyFrom_108 : decode cX2_copyFrom 108 = .ok (.getfield 27, 3) := by decide +kernel
theorem dX2_copyFrom_111 : decode cX2_copyFrom 111 = .ok (.invokestatic 95, 3) := by decide +kernel
theorem dX2_copyFrom_114 : decode cX2_copyFrom 114 = .ok (.aload_n 1, 1) := by decide +kernel
theorem dX2_copyFrom_115 : decode cX2_copyFrom 115 = .ok (.getfield 30, 3) := by decide +kernel
theorem dX2_copyFrom_118 : decode cX2_copyFrom 118 = .ok (.aload_n 0, 1) := by decide +kernel
theorem dX2_copyFrom_119 : decode cX2_copyFrom 119 = .ok (.getfield 30, 3) := by decide +kernel
theorem dX2_copyFrom_122 : decode cX2_copyFrom 122 = .ok (.invokestatic 95, 3) := by decide +kernel
theorem dX2_copyFrom_125 : decode cX2_copyFrom 125 = .ok (.aload_n 1, 1) := by decide +kernel
theorem dX2_copyFrom_126 : decode cX2_copyFrom 126 = .ok (.getfield 33, 3) := by decide +kernel
theorem dX2_copyFrom_129 : decode cX2_copyFrom 129 = .ok (.aload_n 0, 1) := by decide +kernel
theorem dX2_copyFrom_130 : decode cX2_copyFrom 130 = .ok (.getfield 33, 3) := by decide +kernel
theorem dX2_copyFrom_133 : decode cX2_copyFrom 133 = .ok (.invokestatic 99, 3) := by decide +kernel
theorem dX2_copyFrom_136 : decode cX2_copyFrom 136 = .ok (.return_, 1) := by decide +kernel
theorem dX2_cost_0 : decode cX2_cost 0 = .ok (.aload_n 0, 1) := by decide +kernel
theorem dX2_cost_1 : decode cX2_cost 1 = .ok (.iload_n 1, 1) := by decide +kernel
theorem dX2_cost_2 : decode cX2_cost 2 = .ok (.invokevirtual 109, 3) := by decide +kernel
theorem dX2_cost_5 : decode cX2_cost 5 = .ok (.ifCond .le 17, 3) := by decide +kernel
theorem dX2_cost_8 : decode cX2_cost 8 = .ok (.aload_n 0, 1) := by decide +kernel
theorem dX2_cost_9 : decode cX2_cost 9 = .ok (.getfield 37, 3) := by decide +kernel
theorem dX2_cost_12 : decode cX2_cost 12 = .ok (.getfield 113, 3) := by decide +kernel
theorem dX2_cost_15 : decode cX2_cost 15 = .ok (.iload_n 1, 1) := by decide +kernel
theorem dX2_cost_16 : decode cX2_cost 16 = .ok (.iaload, 1) := by decide +kernel
theorem dX2_cost_17 : decode cX2_cost 17 = .ok (.iconst 2, 1) := by decide +kernel
theorem dX2_cost_18 : decode cX2_cost 18 = .ok (.idiv, 1) := by decide +kernel
theorem dX2_cost_19 : decode cX2_cost 19 = .ok (.goto 12, 3) := by decide +kernel
theorem dX2_cost_22 : decode cX2_cost 22 = .ok (.aload_n 0, 1) := by decide +kernel
theorem dX2_cost_23 : decode cX2_cost 23 = .ok (.getfield 37, 3) := by decide +kernel
theorem dX2_cost_26 : decode cX2_cost 26 = .ok (.getfield 113, 3) := by decide +kernel
theorem dX2_cost_29 : decode cX2_cost 29 = .ok (.iload_n 1, 1) := by decide +kernel
theorem dX2_cost_30 : decode cX2_cost 30 = .ok (.iaload, 1) := by decide +kernel
theorem dX2_cost_31 : decode cX2_cost 31 = .ok (.ireturn, 1) := by decide +kernel
theorem dX2_dieByDraw_0 : decode cX2_dieByDraw 0 = .ok (.aload_n 2, 1) := by decide +kernel
theorem dX2_dieByDraw_1 : decode cX2_dieByDraw 1 = .ok (.iconst 5, 1) := by decide +kernel
theorem dX2_dieByDraw_2 : decode cX2_dieByDraw 2 = .ok (.invokevirtual 177, 3) := by decide +kernel
theorem dX2_dieByDraw_5 : decode cX2_dieByDraw 5 = .ok (.ifCond .ne 9, 3) := by decide +kernel
theorem dX2_dieByDraw_8 : decode cX2_dieByDraw 8 = .ok (.aload_n 0, 1) := by decide +kernel
theorem dX2_dieByDraw_9 : decode cX2_dieByDraw 9 = .ok (.iload_n 1, 1) := by decide +kernel
theorem dX2_dieByDraw_10 : decode cX2_dieByDraw 10 = .ok (.iconst 0, 1) := by decide +kernel
theorem dX2_dieByDraw_11 : decode cX2_dieByDraw 11 = .ok (.invokevirtual 152, 3) := by decide +kernel
theorem dX2_dieByDraw_14 : decode cX2_dieByDraw 14 = .ok (.return_, 1) := by decide +kernel
theorem dX2_doesWait_0 : decode cX2_doesWait 0 = .ok (.aload_n 0, 1) := by decide +kernel
theorem dX2_doesWait_1 : decode cX2_doesWait 1 = .ok (.iload_n 1, 1) := by decide +kernel
theorem dX2_doesWait_2 : decode cX2_doesWait 2 = .ok (.invokevirtual 106, 3) := by decide +kernel
theorem dX2_doesWait_5 : decode cX2_doesWait 5 = .ok (.ifCond .eq 17, 3) := by decide +kernel
theorem dX2_doesWait_8 : decode cX2_doesWait 8 = .ok (.aload_n 0, 1) := by decide +kernel
theorem dX2_doesWait_9 : decode cX2_doesWait 9 = .ok (.getfield 21, 3) := by decide +kernel
theorem dX2_doesWait_12 : decode cX2_doesWait 12 = .ok (.iload_n 1, 1) := by decide +kernel
theorem dX2_doesWait_13 : decode cX2_doesWait 13 = .ok (.iaload, 1) := by decide +kernel
theorem dX2_doesWait_14 : decode cX2_doesWait 14 = .ok (.iconst (-1), 1) := by decide +kernel
theorem dX2_doesWait_15 : decode cX2_doesWait 15 = .ok (.if_icmp .ne 7, 3) := by decide +kernel
theorem dX2_doesWait_18 : decode cX2_doesWait 18 = .ok (.iconst 1, 1) := by decide +kernel
theorem dX2_doesWait_19 : decode cX2_doesWait 19 = .ok (.goto 4, 3) := by decide +kernel
theorem dX2_doesWait_22 : decode cX2_doesWait 22 = .ok (.iconst 0, 1) := by decide +kernel
theorem dX2_doesWait_23 : decode cX2_doesWait 23 = .ok (.ireturn, 1) := by decide +kernel
theorem dX2_drawLot_0 : decode cX2_drawLot 0 = .ok (.aload_n 2, 1) := by decide +kernel
theorem dX2_drawLot_1 : decode cX2_drawLot 1 = .ok (.aload_n 0, 1) := by decide +kernel
theorem dX2_drawLot_2 : decode cX2_drawLot 2 = .ok (.getfield 62, 3) := by decide +kernel
theorem dX2_drawLot_5 : decode cX2_drawLot 5 = .ok (.invokevirtual 177, 3) := by decide +kernel
theorem dX2_drawLot_8 : decode cX2_drawLot 8 = .ok (.istore_n 3, 1) := by decide +kernel
theorem dX2_drawLot_9 : decode cX2_drawLot 9 = .ok (.iload_n 3, 1) := by decide +kernel
theorem dX2_drawLot_10 : decode cX2_drawLot 10 = .ok (.aload_n 0, 1) := by decide +kernel
theorem dX2_drawLot_11 : decode cX2_drawLot 11 = .ok (.getfield 62, 3) := by decide +kernel
theorem dX2_drawLot_14 : decode cX2_drawLot 14 = .ok (.if_icmp .lt 5, 3) := by decide +kernel
theorem dX2_drawLot_17 : decode cX2_drawLot 17 = .ok (.iconst (-1), 1) := by decide +kernel
theorem dX2_drawLot_18 : decode cX2_drawLot 18 = .ok (.ireturn, 1) := by decide +kernel
theorem dX2_drawLot_19 : decode cX2_drawLot 19 = .ok (.aload_n 0, 1) := by decide +kernel
theorem dX2_drawLot_20 : decode cX2_drawLot 20 = .ok (.getfield 30, 3) := by decide +kernel
theorem dX2_drawLot_23 : decode cX2_drawLot 23 = .ok (.iload_n 3, 1) := by decide +kernel
theorem dX2_drawLot_24 : decode cX2_drawLot 24 = .ok (.iaload, 1) := by decide +kernel
theorem dX2_drawLot_25 : decode cX2_drawLot 25 = .ok (.istore 4, 2) := by decide +kernel
theorem dX2_drawLot_27 : decode cX2_drawLot 27 = .ok (.aload_n 0, 1) := by decide +kernel
theorem dX2_drawLot_28 : decode cX2_drawLot 28 = .ok (.iload 4, 2) := by decide +kernel
theorem dX2_drawLot_30 : decode cX2_drawLot 30 = .ok (.invokevirtual 171, 3) := by decide +kernel
theorem dX2_drawLot_33 : decode cX2_drawLot 33 = .ok (.aload_n 0, 1) := by decide +kernel
theorem dX2_drawLot_34 : decode cX2_drawLot 34 = .ok (.iload 4, 2) := by decide +kernel
theorem dX2_drawLot_36 : decode cX2_drawLot 36 = .ok (.iload_n 1, 1) := by decide +kernel
theorem dX2_drawLot_37 : decode cX2_drawLot 37 = .ok (.invokevirtual 87, 3) := by decide +kernel
theorem dX2_drawLot_40 : decode cX2_drawLot 40 = .ok (.aload_n 0, 1) := by decide +kernel
theorem dX2_drawLot_41 : decode cX2_drawLot 41 = .ok (.dup, 1) := by decide +kernel
theorem dX2_drawLot_42 : decode cX2_drawLot 42 = .ok (.getfield 59, 3) := by decide +kernel
theorem dX2_drawLot_45 : decode cX2_drawLot 45 = .ok (.iconst 1, 1) := by decide +kernel
theorem dX2_drawLot_46 : decode cX2_drawLot 46 = .ok (.iload_n 1, 1) := by decide +kernel
theorem dX2_drawLot_47 : decode cX2_drawLot 47 = .ok (.ishl, 1) := by decide +kernel
theorem dX2_drawLot_48 : decode cX2_drawLot 48 = .ok (.iconst (-1), 1) := by decide +kernel
theorem dX2_drawLot_49 : decode cX2_drawLot 49 = .ok (.ixor, 1) := by decide +kernel
theorem dX2_drawLot_50 : decode cX2_drawLot 50 = .ok (.iand, 1) := by decide +kernel
theorem dX2_drawLot_51 : decode cX2_drawLot 51 = .ok (.putfield 59, 3) := by decide +kernel
theorem dX2_drawLot_54 : decode cX2_drawLot 54 = .ok (.aload_n 0, 1) := by decide +kernel
theorem dX2_drawLot_55 : decode cX2_drawLot 55 = .ok (.dup, 1) := by decide +kernel
theorem dX2_drawLot_56 : decode cX2_drawLot 56 = .ok (.getfield 53, 3) := by decide +kernel
theorem dX2_drawLot_59 : decode cX2_drawLot 59 = .ok (.iconst 1, 1) := by decide +kernel
theorem dX2_drawLot_60 : decode cX2_drawLot 60 = .ok (.iload 4, 2) := by decide +kernel
theorem dX2_drawLot_62 : decode cX2_drawLot 62 = .ok (.ishl, 1) := by decide +kernel
theorem dX2_drawLot_63 : decode cX2_drawLot 63 = .ok (.ior, 1) := by decide +kernel
theorem dX2_drawLot_64 : decode cX2_drawLot 64 = .ok (.putfield 53, 3) := by decide +kernel
theorem dX2_drawLot_67 : decode cX2_drawLot 67 = .ok (.iload 4, 2) := by decide +kernel
theorem dX2_drawLot_69 : decode cX2_drawLot 69 = .ok (.ireturn, 1) := by decide +kernel
theorem dX2_endMonday_0 : decode cX2_endMonday 0 = .ok (.aload_n 0, 1) := by decide +kernel
theorem dX2_endMonday_1 : decode cX2_endMonday 1 = .ok (.getfield 41, 3) := by decide +kernel
theorem dX2_endMonday_4 : decode cX2_endMonday 4 = .ok (.sipush 200, 3) := by decide +kernel
theorem dX2_endMonday_7 : decode cX2_endMonday 7 = .ok (.if_icmp .lt 4, 3) := by decide +kernel
theorem dX2_endMonday_10 : decode cX2_endMonday 10 = .ok (.return_, 1) := by decide +kernel
theorem dX2_endMonday_11 : decode cX2_endMonday 11 = .ok (.lconst 0, 1) := by decide +kernel
theorem dX2_endMonday_12 : decode cX2_endMonday 12 = .ok (.lstore_n 1, 1) := by decide +kernel
theorem dX2_endMonday_13 : decode cX2_endMonday 13 = .ok (.iconst 0, 1) := by decide +kernel
theorem dX2_endMonday_14 : decode cX2_endMonday 14 = .ok (.istore_n 3, 1) := by decide +kernel
theorem dX2_endMonday_15 : decode cX2_endMonday 15 = .ok (.iload_n 3, 1) := by decide +kernel
theorem dX2_endMonday_16 : decode cX2_endMonday 16 = .ok (.aload_n 0, 1) := by decide +kernel
theorem dX2_endMonday_17 : decode cX2_endMonday 17 = .ok (.getfield 37, 3) := by decide +kernel
theorem dX2_endMonday_20 : decode cX2_endMonday 20 = .ok (.getfield 45, 3) := by decide +kernel
theorem dX2_endMonday_23 : decode cX2_endMonday 23 = .ok (.if_icmp .ge 25, 3) := by decide +kernel
theorem dX2_endMonday_26 : decode cX2_endMonday 26 = .ok (.lload_n 1, 1) := by decide +kernel
theorem dX2_endMonday_27 : decode cX2_endMonday 27 = .ok (.aload_n 0, 1) := by decide +kernel
theorem dX2_endMonday_28 : decode cX2_endMonday 28 = .ok (.getfield 21, 3) := by decide +kernel
theorem dX2_endMonday_31 : decode cX2_endMonday 31 = .ok (.iload_n 3, 1) := by decide +kernel
theorem dX2_endMonday_32 : decode cX2_endMonday 32 = .ok (.iaload, 1) := by decide +kernel
theorem dX2_endMonday_33 : decode cX2_endMonday 33 = .ok (.iconst 1, 1) := by decide +kernel
theorem dX2_endMonday_34 : decode cX2_endMonday 34 = .ok (.iadd, 1) := by decide +kernel
theorem dX2_endMonday_35 : decode cX2_endMonday 35 = .ok (.i2l, 1) := by decide +kernel
theorem dX2_endMonday_36 : decode cX2_endMonday 36 = .ok (.iconst 4, 1) := by decide +kernel
theorem dX2_endMonday_37 : decode cX2_endMonday 37 = .ok (.iload_n 3, 1) := by decide +kernel
theorem dX2_endMonday_38 : decode cX2_endMonday 38 = .ok (.imul, 1) := by decide +kernel
theorem dX2_endMonday_39 : decode cX2_endMonday 39 = .ok (.lshl, 1) := by decide +kernel
theorem dX2_endMonday_40 : decode cX2_endMonday 40 = .ok (.lor, 1) := by decide +kernel
theorem dX2_endMonday_41 : decode cX2_endMonday 41 = .ok (.lstore_n 1, 1) := by decide +kernel
theorem dX2_endMonday_42 : decode cX2_endMonday 42 = .ok (.iinc 3 1, 3) := by decide +kernel
theorem dX2_endMonday_45 : decode cX2_endMonday 45 = .ok (.goto (-30), 3) := by decide +kernel
theorem dX2_endMonday_48 : decode cX2_endMonday 48 = .ok (.aload_n 0, 1) := by decide +kernel
theorem dX2_endMonday_49 : decode cX2_endMonday 49 = .ok (.getfield 33, 3) := by decide +kernel
theorem dX2_endMonday_52 : decode cX2_endMonday 52 = .ok (.aload_n 0, 1) := by decide +kernel
theorem dX2_endMonday_53 : decode cX2_endMonday 53 = .ok (.getfield 41, 3) := by decide +kernel
theorem dX2_endMonday_56 : decode cX2_endMonday 56 = .ok (.lload_n 1, 1) := by decide +kernel
theorem dX2_endMonday_57 : decode cX2_endMonday 57 = .ok (.lastore, 1) := by decide +kernel
theorem dX2_endMonday_58 : decode cX2_endMonday 58 = .ok (.iconst 0, 1) := by decide +kernel
theorem dX2_endMonday_59 : decode cX2_endMonday 59 = .ok (.istore_n 3, 1) := by decide +kernel
theorem dX2_endMonday_60 : decode cX2_endMonday 60 = .ok (.iload_n 3, 1) := by decide +kernel
theorem dX2_endMonday_61 : decode cX2_endMonday 61 = .ok (.aload_n 0, 1) := by decide +kernel
theorem dX2_endMonday_62 : decode cX2_endMonday 62 = .ok (.getfield 37, 3) := by decide +kernel
theorem dX2_endMonday_65 : decode cX2_endMonday 65 = .ok (.getfield 65, 3) := by decide +kernel
theorem dX2_endMonday_68 : decode cX2_endMonday 68 = .ok (.if_icmp .ge 44, 3) := by decide +kernel
theorem dX2_endMonday_71 : decode cX2_endMonday 71 = .ok (.aload_n 0, 1) := by decide +kernel
theorem dX2_endMonday_72 : decode cX2_endMonday 72 = .ok (.getfield 9, 3) := by decide +kernel
theorem dX2_endMonday_75 : decode cX2_endMonday 75 = .ok (.iload_n 3, 1) := by decide +kernel
theorem dX2_endMonday_76 : decode cX2_endMonday 76 = .ok (.iaload, 1) := by decide +kernel
theorem dX2_endMonday_77 : decode cX2_endMonday 77 = .ok (.iconst (-1), 1) := by decide +kernel
theorem dX2_endMonday_78 : decode cX2_endMonday 78 = .ok (.if_icmp .eq 28, 3) := by decide +kernel
theorem dX2_endMonday_81 : decode cX2_endMonday 81 = .ok (.aload_n 0, 1) := by decide +kernel
theorem dX2_endMonday_82 : decode cX2_endMonday 82 = .ok (.getfield 37, 3) := by decide +kernel
theorem dX2_endMonday_85 : decode cX2_endMonday 85 = .ok (.iload_n 3, 1) := by decide +kernel
theorem dX2_endMonday_86 : decode cX2_endMonday 86 = .ok (.aload_n 0, 1) := by decide +kernel
theorem dX2_endMonday_87 : decode cX2_endMonday 87 = .ok (.getfield 41, 3) := by decide +kernel
theorem dX2_endMonday_90 : decode cX2_endMonday 90 = .ok (.invokevirtual 191, 3) := by decide +kernel
theorem dX2_endMonday_93 : decode cX2_endMonday 93 = .ok (.ifCond .eq 13, 3) := by decide +kernel
theorem dX2_endMonday_96 : decode cX2_endMonday 96 = .ok (.aload_n 0, 1) := by decide +kernel
theorem dX2_endMonday_97 : decode cX2_endMonday 97 = .ok (.aload_n 0, 1) := by decide +kernel
theorem dX2_endMonday_98 : decode cX2_endMonday 98 = .ok (.getfield 9, 3) := by decide +kernel
theorem dX2_endMonday_101 : decode cX2_endMonday 101 = .ok (.iload_n 3, 1) := by decide +kernel
theorem dX2_endMonday_102 : decode cX2_endMonday 102 = .ok (.iaload, 1) := by decide +kernel
theorem dX2_endMonday_103 : decode cX2_endMonday 103 = .ok (.invokevirtual 194, 3) := by decide +kernel
theorem dX2_endMonday_106 : decode cX2_endMonday 106 = .ok (.iinc 3 1, 3) := by decide +kernel
theorem dX2_endMonday_109 : decode cX2_endMonday 109 = .ok (.goto (-49), 3) := by decide +kernel
theorem dX2_endMonday_112 : decode cX2_endMonday 112 = .ok (.aload_n 0, 1) := by decide +kernel
theorem dX2_endMonday_113 : decode cX2_endMonday 113 = .ok (.dup, 1) := by decide +kernel
theorem dX2_endMonday_114 : decode cX2_endMonday 114 = .ok (.getfield 41, 3) := by decide +kernel
theorem dX2_endMonday_117 : decode cX2_endMonday 117 = .ok (.iconst 1, 1) := by decide +kernel
theorem dX2_endMonday_118 : decode cX2_endMonday 118 = .ok (.iadd, 1) := by decide +kernel
theorem dX2_endMonday_119 : decode cX2_endMonday 119 = .ok (.putfield 41, 3) := by decide +kernel
theorem dX2_endMonday_122 : decode cX2_endMonday 122 = .ok (.aload_n 0, 1) := by decide +kernel
theorem dX2_endMonday_123 : decode cX2_endMonday 123 = .ok (.iconst 0, 1) := by decide +kernel
theorem dX2_endMonday_124 : decode cX2_endMonday 124 = .ok (.putfield 53, 3) := by decide +kernel
theorem dX2_endMonday_127 : decode cX2_endMonday 127 = .ok (.return_, 1) := by decide +kernel
theorem dX2_exchange_0 : decode cX2_exchange 0 = .ok (.aload_n 0, 1) := by decide +kernel
theorem dX2_exchange_1 : decode cX2_exchange 1 = .ok (.getfield 21, 3) := by decide +kernel
theorem dX2_exchange_4 : decode cX2_exchange 4 = .ok (.iload_n 1, 1) := by decide +kernel
theorem dX2_exchange_5 : decode cX2_exchange 5 = .ok (.iaload, 1) := by decide +kernel
theorem dX2_exchange_6 : decode cX2_exchange 6 = .ok (.istore_n 3, 1) := by decide +kernel
theorem dX2_exchange_7 : decode cX2_exchange 7 = .ok (.aload_n 0, 1) := by decide +kernel
theorem dX2_exchange_8 : decode cX2_exchange 8 = .ok (.iload_n 1, 1) := by decide +kernel
theorem dX2_exchange_9 : decode cX2_exchange 9 = .ok (.aload_n 0, 1) := by decide +kernel
theorem dX2_exchange_10 : decode cX2_exchange 10 = .ok (.getfield 21, 3) := by decide +kernel
theorem dX2_exchange_13 : decode cX2_exchange 13 = .ok (.iload_n 2, 1) := by decide +kernel
theorem dX2_exchange_14 : decode cX2_exchange 14 = .ok (.iaload, 1) := by decide +kernel
theorem dX2_exchange_15 : decode cX2_exchange 15 = .ok (.invokevirtual 87, 3) := by decide +kernel
theorem dX2_exchange_18 : decode cX2_exchange 18 = .ok (.aload_n 0, 1) := by decide +kernel
theorem dX2_exchange_19 : decode cX2_exchange 19 = .ok (.iload_n 2, 1) := by decide +kernel
theorem dX2_exchange_20 : decode cX2_exchange 20 = .ok (.iload_n 3, 1) := by decide +kernel
theorem dX2_exchange_21 : decode cX2_exchange 21 = .ok (.invokevirtual 87, 3) := by decide +kernel
theorem dX2_exchange_24 : decode cX2_exchange 24 = .ok (.aload_n 0, 1) := by decide +kernel
theorem dX2_exchange_25 : decode cX2_exchange 25 = .ok (.dup, 1) := by decide +kernel
theorem dX2_exchange_26 : decode cX2_exchange 26 = .ok (.getfield 53, 3) := by decide +kernel
theorem dX2_exchange_29 : decode cX2_exchange 29 = .ok (.iconst 1, 1) := by decide +kernel
theorem dX2_exchange_30 : decode cX2_exchange 30 = .ok (.iload_n 1, 1) := by decide +kernel
theorem dX2_exchange_31 : decode cX2_exchange 31 = .ok (.ishl, 1) := by decide +kernel
theorem dX2_exchange_32 : decode cX2_exchange 32 = .ok (.iconst 1, 1) := by decide +kernel
theorem dX2_exchange_33 : decode cX2_exchange 33 = .ok (.iload_n 2, 1) := by decide +kernel
theorem dX2_exchange_34 : decode cX2_exchange 34 = .ok (.ishl, 1) := by decide +kernel
theorem dX2_exchange_35 : decode cX2_exchange 35 = .ok (.ior, 1) := by decide +kernel
theorem dX2_exchange_36 : decode cX2_exchange 36 = .ok (.ior, 1) := by decide +kernel
theorem dX2_exchange_37 : decode cX2_exchange 37 = .ok (.putfield 53, 3) := by decide +kernel
theorem dX2_exchange_40 : decode cX2_exchange 40 = .ok (.return_, 1) := by decide +kernel
theorem dX2_feast_0 : decode cX2_feast 0 = .ok (.aload_n 0, 1) := by decide +kernel
theorem dX2_feast_1 : decode cX2_feast 1 = .ok (.getfield 24, 3) := by decide +kernel
theorem dX2_feast_4 : decode cX2_feast 4 = .ok (.iload_n 1, 1) := by decide +kernel
theorem dX2_feast_5 : decode cX2_feast 5 = .ok (.aload_n 0, 1) := by decide +kernel
theorem dX2_feast_6 : decode cX2_feast 6 = .ok (.getfield 24, 3) := by decide +kernel
theorem dX2_feast_9 : decode cX2_feast 9 = .ok (.iload_n 1, 1) := by decide +kernel
theorem dX2_feast_10 : decode cX2_feast 10 = .ok (.iaload, 1) := by decide +kernel
theorem dX2_feast_11 : decode cX2_feast 11 = .ok (.iconst 2, 1) := by decide +kernel
theorem dX2_feast_12 : decode cX2_feast 12 = .ok (.if_icmp .le 14, 3) := by decide +kernel
theorem dX2_feast_15 : decode cX2_feast 15 = .ok (.aload_n 0, 1) := by decide +kernel
theorem dX2_feast_16 : decode cX2_feast 16 = .ok (.getfield 24, 3) := by decide +kernel
theorem dX2_feast_19 : decode cX2_feast 19 = .ok (.iload_n 1, 1) := by decide +kernel
theorem dX2_feast_20 : decode cX2_feast 20 = .ok (.iaload, 1) := by decide +kernel
theorem dX2_feast_21 : decode cX2_feast 21 = .ok (.iconst 2, 1) := by decide +kernel
theorem dX2_feast_22 : decode cX2_feast 22 = .ok (.isub, 1) := by decide +kernel
theorem dX2_feast_23 : decode cX2_feast 23 = .ok (.goto 4, 3) := by decide +kernel
theorem dX2_feast_26 : decode cX2_feast 26 = .ok (.iconst 0, 1) := by decide +kernel
theorem dX2_feast_27 : decode cX2_feast 27 = .ok (.iastore, 1) := by decide +kernel
theorem dX2_feast_28 : decode cX2_feast 28 = .ok (.aload_n 0, 1) := by decide +kernel
theorem dX2_feast_29 : decode cX2_feast 29 = .ok (.getfield 27, 3) := by decide +kernel
theorem dX2_feast_32 : decode cX2_feast 32 = .ok (.iload_n 1, 1) := by decide +kernel
theorem dX2_feast_33 : decode cX2_feast 33 = .ok (.dup2, 1) := by decide +kernel
theorem dX2_feast_34 : decode cX2_feast 34 = .ok (.iaload, 1) := by decide +kernel
theorem dX2_feast_35 : decode cX2_feast 35 = .ok (.iconst 1, 1) := by decide +kernel
theorem dX2_feast_36 : decode cX2_feast 36 = .ok (.iadd, 1) := by decide +kernel
theorem dX2_feast_37 : decode cX2_feast 37 = .ok (.iastore, 1) := by decide +kernel
theorem dX2_feast_38 : decode cX2_feast 38 = .ok (.return_, 1) := by decide +kernel
theorem dX2_freeNames_0 : decode cX2_freeNames 0 = .ok (.iconst 0, 1) := by decide +kernel
theorem dX2_freeNames_1 : decode cX2_freeNames 1 = .ok (.istore_n 1, 1) := by decide +kernel
theorem dX2_freeNames_2 : decode cX2_freeNames 2 = .ok (.iconst 0, 1) := by decide +kernel
theorem dX2_freeNames_3 : decode cX2_freeNames 3 = .ok (.istore_n 2, 1) := by decide +kernel
theorem dX2_freeNames_4 : decode cX2_freeNames 4 = .ok (.iload_n 2, 1) := by decide +kernel
theorem dX2_freeNames_5 : decode cX2_freeNames 5 = .ok (.aload_n 0, 1) := by decide +kernel
theorem dX2_freeNames_6 : decode cX2_freeNames 6 = .ok (.getfield 37, 3) := by decide +kernel
theorem dX2_freeNames_9 : decode cX2_freeNames 9 = .ok (.getfield 65, 3) := by decide +kernel
theorem dX2_freeNames_12 : decode cX2_freeNames 12 = .ok (.if_icmp .ge 25, 3) := by decide +kernel
theorem dX2_freeNames_15 : decode cX2_freeNames 15 = .ok (.aload_n 0, 1) := by decide +kernel
theorem dX2_freeNames_16 : decode cX2_freeNames 16 = .ok (.getfield 9, 3) := by decide +kernel
theorem dX2_freeNames_19 : decode cX2_freeNames 19 = .ok (.iload_n 2, 1) := by decide +kernel
theorem dX2_freeNames_20 : decode cX2_freeNames 20 = .ok (.iaload, 1) := by decide +kernel
theorem dX2_freeNames_21 : decode cX2_freeNames 21 = .ok (.iconst (-1), 1) := by decide +kernel
theorem dX2_freeNames_22 : decode cX2_freeNames 22 = .ok (.if_icmp .ne 9, 3) := by decide +kernel
theorem dX2_freeNames_25 : decode cX2_freeNames 25 = .ok (.iload_n 1, 1) := by decide +kernel
theorem dX2_freeNames_26 : decode cX2_freeNames 26 = .ok (.iconst 1, 1) := by decide +kernel
theorem dX2_freeNames_27 : decode cX2_freeNames 27 = .ok (.iload_n 2, 1) := by decide +kernel
theorem dX2_freeNames_28 : decode cX2_freeNames 28 = .ok (.ishl, 1) := by decide +kernel
theorem dX2_freeNames_29 : decode cX2_freeNames 29 = .ok (.ior, 1) := by decide +kernel
theorem dX2_freeNames_30 : decode cX2_freeNames 30 = .ok (.istore_n 1, 1) := by decide +kernel
theorem dX2_freeNames_31 : decode cX2_freeNames 31 = .ok (.iinc 2 1, 3) := by decide +kernel
theorem dX2_freeNames_34 : decode cX2_freeNames 34 = .ok (.goto (-30), 3) := by decide +kernel
theorem dX2_freeNames_37 : decode cX2_freeNames 37 = .ok (.iload_n 1, 1) := by decide +kernel
theorem dX2_freeNames_38 : decode cX2_freeNames 38 = .ok (.ireturn, 1) := by decide +kernel
theorem dX2_give_0 : decode cX2_give 0 = .ok (.aload_n 0, 1) := by decide +kernel
theorem dX2_give_1 : decode cX2_give 1 = .ok (.getfield 21, 3) := by decide +kernel
theorem dX2_give_4 : decode cX2_give 4 = .ok (.iload_n 1, 1) := by decide +kernel
theorem dX2_give_5 : decode cX2_give 5 = .ok (.iload_n 2, 1) := by decide +kernel
theorem dX2_give_6 : decode cX2_give 6 = .ok (.iastore, 1) := by decide +kernel
theorem dX2_give_7 : decode cX2_give 7 = .ok (.aload_n 0, 1) := by decide +kernel
theorem dX2_give_8 : decode cX2_give 8 = .ok (.getfield 9, 3) := by decide +kernel
theorem dX2_give_11 : decode cX2_give 11 = .ok (.iload_n 2, 1) := by decide +kernel
theorem dX2_give_12 : decode cX2_give 12 = .ok (.iload_n 1, 1) := by decide +kernel
theorem dX2_give_13 : decode cX2_give 13 = .ok (.iastore, 1) := by decide +kernel
theorem dX2_give_14 : decode cX2_give 14 = .ok (.return_, 1) := by decide +kernel
theorem dX2_handOver_0 : decode cX2_handOver 0 = .ok (.aload_n 0, 1) := by decide +kernel
theorem dX2_handOver_1 : decode cX2_handOver 1 = .ok (.getfield 21, 3) := by decide +kernel
theorem dX2_handOver_4 : decode cX2_handOver 4 = .ok (.iload_n 1, 1) := by decide +kernel
theorem dX2_handOver_5 : decode cX2_handOver 5 = .ok (.iaload, 1) := by decide +kernel
theorem dX2_handOver_6 : decode cX2_handOver 6 = .ok (.istore_n 3, 1) := by decide +kernel
theorem dX2_handOver_7 : decode cX2_handOver 7 = .ok (.aload_n 0, 1) := by decide +kernel
theorem dX2_handOver_8 : decode cX2_handOver 8 = .ok (.getfield 24, 3) := by decide +kernel
theorem dX2_handOver_11 : decode cX2_handOver 11 = .ok (.iload_n 2, 1) := by decide +kernel
theorem dX2_handOver_12 : decode cX2_handOver 12 = .ok (.dup2, 1) := by decide +kernel
theorem dX2_handOver_13 : decode cX2_handOver 13 = .ok (.iaload, 1) := by decide +kernel
theorem dX2_handOver_14 : decode cX2_handOver 14 = .ok (.aload_n 0, 1) := by decide +kernel
theorem dX2_handOver_15 : decode cX2_handOver 15 = .ok (.getfield 37, 3) := by decide +kernel
theorem dX2_handOver_18 : decode cX2_handOver 18 = .ok (.getfield 113, 3) := by decide +kernel
theorem dX2_handOver_21 : decode cX2_handOver 21 = .ok (.iload_n 3, 1) := by decide +kernel
theorem dX2_handOver_22 : decode cX2_handOver 22 = .ok (.iaload, 1) := by decide +kernel
theorem dX2_handOver_23 : decode cX2_handOver 23 = .ok (.isub, 1) := by decide +kernel
theorem dX2_handOver_24 : decode cX2_handOver 24 = .ok (.iastore, 1) := by decide +kernel
theorem dX2_handOver_25 : decode cX2_handOver 25 = .ok (.aload_n 0, 1) := by decide +kernel
theorem dX2_handOver_26 : decode cX2_handOver 26 = .ok (.getfield 24, 3) := by decide +kernel
theorem dX2_handOver_29 : decode cX2_handOver 29 = .ok (.iload_n 1, 1) := by decide +kernel
theorem dX2_handOver_30 : decode cX2_handOver 30 = .ok (.dup2, 1) := by decide +kernel
theorem dX2_handOver_31 : decode cX2_handOver 31 = .ok (.iaload, 1) := by decide +kernel
theorem dX2_handOver_32 : decode cX2_handOver 32 = .ok (.aload_n 0, 1) := by decide +kernel
theorem dX2_handOver_33 : decode cX2_handOver 33 = .ok (.getfield 37, 3) := by decide +kernel
theorem dX2_handOver_36 : decode cX2_handOver 36 = .ok (.getfield 113, 3) := by decide +kernel
theorem dX2_handOver_39 : decode cX2_handOver 39 = .ok (.iload_n 3, 1) := by decide +kernel
theorem dX2_handOver_40 : decode cX2_handOver 40 = .ok (.iaload, 1) := by decide +kernel
theorem dX2_handOver_41 : decode cX2_handOver 41 = .ok (.iadd, 1) := by decide +kernel
theorem dX2_handOver_42 : decode cX2_handOver 42 = .ok (.iastore, 1) := by decide +kernel
theorem dX2_handOver_43 : decode cX2_handOver 43 = .ok (.aload_n 0, 1) := by decide +kernel
theorem dX2_handOver_44 : decode cX2_handOver 44 = .ok (.getfield 21, 3) := by decide +kernel
theorem dX2_handOver_47 : decode cX2_handOver 47 = .ok (.iload_n 1, 1) := by decide +kernel
theorem dX2_handOver_48 : decode cX2_handOver 48 = .ok (.iconst (-1), 1) := by decide +kernel
theorem dX2_handOver_49 : decode cX2_handOver 49 = .ok (.iastore, 1) := by decide +kernel
theorem dX2_handOver_50 : decode cX2_handOver 50 = .ok (.aload_n 0, 1) := by decide +kernel
theorem dX2_handOver_51 : decode cX2_handOver 51 = .ok (.iload_n 2, 1) := by decide +kernel
theorem dX2_handOver_52 : decode cX2_handOver 52 = .ok (.invokevirtual 171, 3) := by decide +kernel
theorem dX2_handOver_55 : decode cX2_handOver 55 = .ok (.aload_n 0, 1) := by decide +kernel
theorem dX2_handOver_56 : decode cX2_handOver 56 = .ok (.iload_n 2, 1) := by decide +kernel
theorem dX2_handOver_57 : decode cX2_handOver 57 = .ok (.iload_n 3, 1) := by decide +kernel
theorem dX2_handOver_58 : decode cX2_handOver 58 = .ok (.invokevirtual 87, 3) := by decide +kernel
theorem dX2_handOver_61 : decode cX2_handOver 61 = .ok (.aload_n 0, 1) := by decide +kernel
theorem dX2_handOver_62 : decode cX2_handOver 62 = .ok (.iload_n 1, 1) := by decide +kernel
theorem dX2_handOver_63 : decode cX2_handOver 63 = .ok (.invokevirtual 91, 3) := by decide +kernel
theorem dX2_handOver_66 : decode cX2_handOver 66 = .ok (.aload_n 0, 1) := by decide +kernel
theorem dX2_handOver_67 : decode cX2_handOver 67 = .ok (.dup, 1) := by decide +kernel
theorem dX2_handOver_68 : decode cX2_handOver 68 = .ok (.getfield 53, 3) := by decide +kernel
theorem dX2_handOver_71 : decode cX2_handOver 71 = .ok (.iconst 1, 1) := by decide +kernel
theorem dX2_handOver_72 : decode cX2_handOver 72 = .ok (.iload_n 1, 1) := by decide +kernel
theorem dX2_handOver_73 : decode cX2_handOver 73 = .ok (.ishl, 1) := by decide +kernel
theorem dX2_handOver_74 : decode cX2_handOver 74 = .ok (.iconst 1, 1) := by decide +kernel
theorem dX2_handOver_75 : decode cX2_handOver 75 = .ok (.iload_n 2, 1) := by decide +kernel
theorem dX2_handOver_76 : decode cX2_handOver 76 = .ok (.ishl, 1) := by decide +kernel
theorem dX2_handOver_77 : decode cX2_handOver 77 = .ok (.ior, 1) := by decide +kernel
theorem dX2_handOver_78 : decode cX2_handOver 78 = .ok (.ior, 1) := by decide +kernel
theorem dX2_handOver_79 : decode cX2_handOver 79 = .ok (.putfield 53, 3) := by decide +kernel
theorem dX2_handOver_82 : decode cX2_handOver 82 = .ok (.return_, 1) := by decide +kernel
theorem dX2_hangedYet_0 : decode cX2_hangedYet 0 = .ok (.aload_n 0, 1) := by decide +kernel
theorem dX2_hangedYet_1 : decode cX2_hangedYet 1 = .ok (.getfield 18, 3) := by decide +kernel
theorem dX2_hangedYet_4 : decode cX2_hangedYet 4 = .ok (.iload_n 1, 1) := by decide +kernel
theorem dX2_hangedYet_5 : decode cX2_hangedYet 5 = .ok (.iaload, 1) := by decide +kernel
theorem dX2_hangedYet_6 : decode cX2_hangedYet 6 = .ok (.aload_n 0, 1) := by decide +kernel
theorem dX2_hangedYet_7 : decode cX2_hangedYet 7 = .ok (.getfield 41, 3) := by decide +kernel
theorem dX2_hangedYet_10 : decode cX2_hangedYet 10 = .ok (.if_icmp .le 17, 3) := by decide +kernel
theorem dX2_hangedYet_13 : decode cX2_hangedYet 13 = .ok (.aload_n 0, 1) := by decide +kernel
theorem dX2_hangedYet_14 : decode cX2_hangedYet 14 = .ok (.getfield 18, 3) := by decide +kernel
theorem dX2_hangedYet_17 : decode cX2_hangedYet 17 = .ok (.iload_n 1, 1) := by decide +kernel
theorem dX2_hangedYet_18 : decode cX2_hangedYet 18 = .ok (.iaload, 1) := by decide +kernel
theorem dX2_hangedYet_19 : decode cX2_hangedYet 19 = .ok (.aload_n 0, 1) := by decide +kernel
theorem dX2_hangedYet_20 : decode cX2_hangedYet 20 = .ok (.getfield 41, 3) := by decide +kernel
theorem dX2_hangedYet_23 : decode cX2_hangedYet 23 = .ok (.isub, 1) := by decide +kernel
theorem dX2_hangedYet_24 : decode cX2_hangedYet 24 = .ok (.goto 4, 3) := by decide +kernel
theorem dX2_hangedYet_27 : decode cX2_hangedYet 27 = .ok (.iconst 0, 1) := by decide +kernel
theorem dX2_hangedYet_28 : decode cX2_hangedYet 28 = .ok (.ireturn, 1) := by decide +kernel
theorem dX2_hasChanged_0 : decode cX2_hasChanged 0 = .ok (.aload_n 0, 1) := by decide +kernel
theorem dX2_hasChanged_1 : decode cX2_hasChanged 1 = .ok (.getfield 53, 3) := by decide +kernel
theorem dX2_hasChanged_4 : decode cX2_hasChanged 4 = .ok (.iload_n 1, 1) := by decide +kernel
theorem dX2_hasChanged_5 : decode cX2_hasChanged 5 = .ok (.invokestatic 102, 3) := by decide +kernel
theorem dX2_hasChanged_8 : decode cX2_hasChanged 8 = .ok (.ireturn, 1) := by decide +kernel
theorem dX2_hasFled_0 : decode cX2_hasFled 0 = .ok (.aload_n 0, 1) := by decide +kernel
theorem dX2_hasFled_1 : decode cX2_hasFled 1 = .ok (.getfield 56, 3) := by decide +kernel
theorem dX2_hasFled_4 : decode cX2_hasFled 4 = .ok (.iload_n 1, 1) := by decide +kernel
theorem dX2_hasFled_5 : decode cX2_hasFled 5 = .ok (.invokestatic 102, 3) := by decide +kernel
