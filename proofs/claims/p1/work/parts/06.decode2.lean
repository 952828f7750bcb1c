theorem dX11_init_152 : decode cX11_init 152 = .ok (.invokespecial 63, 3) := by decide +kernel
theorem dX11_init_155 : decode cX11_init 155 = .ok (.putfield 68, 3) := by decide +kernel
theorem dX11_init_158 : decode cX11_init 158 = .ok (.aload_n 0, 1) := by decide +kernel
theorem dX11_init_159 : decode cX11_init 159 = .ok (.new 71, 3) := by decide +kernel
theorem dX11_init_162 : decode cX11_init 162 = .ok (.dup, 1) := by decide +kernel
theorem dX11_init_163 : decode cX11_init 163 = .ok (.aload_n 0, 1) := by decide +kernel
theorem dX11_init_164 : decode cX11_init 164 = .ok (.getfield 19, 3) := by decide +kernel
theorem dX11_init_167 : decode cX11_init 167 = .ok (.aload_n 0, 1) := by decide +kernel
theorem dX11_init_168 : decode cX11_init 168 = .ok (.getfield 40, 3) := by decide +kernel
theorem dX11_init_171 : decode cX11_init 171 = .ok (.invokespecial 73, 3) := by decide +kernel
theorem dX11_init_174 : decode cX11_init 174 = .ok (.putfield 76, 3) := by decide +kernel
theorem dX11_init_177 : decode cX11_init 177 = .ok (.aload_n 0, 1) := by decide +kernel
theorem dX11_init_178 : decode cX11_init 178 = .ok (.new 80, 3) := by decide +kernel
theorem dX11_init_181 : decode cX11_init 181 = .ok (.dup, 1) := by decide +kernel
theorem dX11_init_182 : decode cX11_init 182 = .ok (.aload_n 0, 1) := by decide +kernel
theorem dX11_init_183 : decode cX11_init 183 = .ok (.getfield 19, 3) := by decide +kernel
theorem dX11_init_186 : decode cX11_init 186 = .ok (.aload_n 0, 1) := by decide +kernel
theorem dX11_init_187 : decode cX11_init 187 = .ok (.getfield 40, 3) := by decide +kernel
theorem dX11_init_190 : decode cX11_init 190 = .ok (.invokespecial 82, 3) := by decide +kernel
theorem dX11_init_193 : decode cX11_init 193 = .ok (.putfield 83, 3) := by decide +kernel
theorem dX11_init_196 : decode cX11_init 196 = .ok (.aload_n 0, 1) := by decide +kernel
theorem dX11_init_197 : decode cX11_init 197 = .ok (.new 87, 3) := by decide +kernel
theorem dX11_init_200 : decode cX11_init 200 = .ok (.dup, 1) := by decide +kernel
theorem dX11_init_201 : decode cX11_init 201 = .ok (.invokespecial 89, 3) := by decide +kernel
theorem dX11_init_204 : decode cX11_init 204 = .ok (.putfield 90, 3) := by decide +kernel
theorem dX11_init_207 : decode cX11_init 207 = .ok (.aload_n 0, 1) := by decide +kernel
theorem dX11_init_208 : decode cX11_init 208 = .ok (.iconst 2, 1) := by decide +kernel
theorem dX11_init_209 : decode cX11_init 209 = .ok (.anewarray 94, 3) := by decide +kernel
theorem dX11_init_212 : decode cX11_init 212 = .ok (.putfield 96, 3) := by decide +kernel
theorem dX11_init_215 : decode cX11_init 215 = .ok (.iconst 0, 1) := by decide +kernel
theorem dX11_init_216 : decode cX11_init 216 = .ok (.istore_n 1, 1) := by decide +kernel
theorem dX11_init_217 : decode cX11_init 217 = .ok (.iload_n 1, 1) := by decide +kernel
theorem dX11_init_218 : decode cX11_init 218 = .ok (.iconst 2, 1) := by decide +kernel
theorem dX11_init_219 : decode cX11_init 219 = .ok (.if_icmp .ge 26, 3) := by decide +kernel
theorem dX11_init_222 : decode cX11_init 222 = .ok (.aload_n 0, 1) := by decide +kernel
theorem dX11_init_223 : decode cX11_init 223 = .ok (.getfield 96, 3) := by decide +kernel
theorem dX11_init_226 : decode cX11_init 226 = .ok (.iload_n 1, 1) := by decide +kernel
theorem dX11_init_227 : decode cX11_init 227 = .ok (.new 94, 3) := by decide +kernel
theorem dX11_init_230 : decode cX11_init 230 = .ok (.dup, 1) := by decide +kernel
theorem dX11_init_231 : decode cX11_init 231 = .ok (.aload_n 0, 1) := by decide +kernel
theorem dX11_init_232 : decode cX11_init 232 = .ok (.getfield 10, 3) := by decide +kernel
theorem dX11_init_235 : decode cX11_init 235 = .ok (.invokespecial 100, 3) := by decide +kernel
theorem dX11_init_238 : decode cX11_init 238 = .ok (.aastore, 1) := by decide +kernel
theorem dX11_init_239 : decode cX11_init 239 = .ok (.iinc 1 1, 3) := by decide +kernel
theorem dX11_init_242 : decode cX11_init 242 = .ok (.goto (-25), 3) := by decide +kernel
theorem dX11_init_245 : decode cX11_init 245 = .ok (.return_, 1) := by decide +kernel
theorem dX11_isLedger_0 : decode cX11_isLedger 0 = .ok (.iload_n 1, 1) := by decide +kernel
theorem dX11_isLedger_1 : decode cX11_isLedger 1 = .ok (.iconst 1, 1) := by decide +kernel
theorem dX11_isLedger_2 : decode cX11_isLedger 2 = .ok (.if_icmp .lt 14, 3) := by decide +kernel
theorem dX11_isLedger_16 : decode cX11_isLedger 16 = .ok (.iconst 0, 1) := by decide +kernel
theorem dX11_isLedger_17 : decode cX11_isLedger 17 = .ok (.ireturn, 1) := by decide +kernel
theorem dX11_least_0 : decode cX11_least 0 = .ok (.aload_n 0, 1) := by decide +kernel
theorem dX11_least_1 : decode cX11_least 1 = .ok (.getfield 19, 3) := by decide +kernel
theorem dX11_least_4 : decode cX11_least 4 = .ok (.iload_n 1, 1) := by decide +kernel
theorem dX11_least_5 : decode cX11_least 5 = .ok (.invokevirtual 169, 3) := by decide +kernel
theorem dX11_least_8 : decode cX11_least 8 = .ok (.ifCond .eq 25, 3) := by decide +kernel
theorem dX11_least_33 : decode cX11_least 33 = .ok (.iconst (-1), 1) := by decide +kernel
theorem dX11_least_34 : decode cX11_least 34 = .ok (.ireturn, 1) := by decide +kernel
theorem dX11_ledger_0 : decode cX11_ledger 0 = .ok (.aload_n 0, 1) := by decide +kernel
theorem dX11_ledger_1 : decode cX11_ledger 1 = .ok (.getfield 10, 3) := by decide +kernel
theorem dX11_ledger_4 : decode cX11_ledger 4 = .ok (.getfield 111, 3) := by decide +kernel
theorem dX11_ledger_7 : decode cX11_ledger 7 = .ok (.istore_n 1, 1) := by decide +kernel
theorem dX11_ledger_8 : decode cX11_ledger 8 = .ok (.aload_n 0, 1) := by decide +kernel
theorem dX11_ledger_9 : decode cX11_ledger 9 = .ok (.getfield 10, 3) := by decide +kernel
theorem dX11_ledger_12 : decode cX11_ledger 12 = .ok (.iconst 0, 1) := by decide +kernel
theorem dX11_ledger_13 : decode cX11_ledger 13 = .ok (.putfield 111, 3) := by decide +kernel
theorem dX11_ledger_16 : decode cX11_ledger 16 = .ok (.aload_n 0, 1) := by decide +kernel
theorem dX11_ledger_17 : decode cX11_ledger 17 = .ok (.iload_n 1, 1) := by decide +kernel
theorem dX11_ledger_18 : decode cX11_ledger 18 = .ok (.invokevirtual 293, 3) := by decide +kernel
theorem dX11_ledger_21 : decode cX11_ledger 21 = .ok (.ifCond .eq 11, 3) := by decide +kernel
theorem dX11_ledger_32 : decode cX11_ledger 32 = .ok (.iconst (-1), 1) := by decide +kernel
theorem dX11_ledger_33 : decode cX11_ledger 33 = .ok (.ireturn, 1) := by decide +kernel
theorem dX11_lot_0 : decode cX11_lot 0 = .ok (.aload_n 0, 1) := by decide +kernel
theorem dX11_lot_1 : decode cX11_lot 1 = .ok (.getfield 19, 3) := by decide +kernel
theorem dX11_lot_4 : decode cX11_lot 4 = .ok (.iload_n 1, 1) := by decide +kernel
theorem dX11_lot_5 : decode cX11_lot 5 = .ok (.invokevirtual 143, 3) := by decide +kernel
theorem dX11_lot_8 : decode cX11_lot 8 = .ok (.ifCond .ne 5, 3) := by decide +kernel
theorem dX11_lot_11 : decode cX11_lot 11 = .ok (.iconst (-1), 1) := by decide +kernel
theorem dX11_lot_12 : decode cX11_lot 12 = .ok (.ireturn, 1) := by decide +kernel
theorem dX11_mondays_0 : decode cX11_mondays 0 = .ok (.iload_n 1, 1) := by decide +kernel
theorem dX11_mondays_1 : decode cX11_mondays 1 = .ok (.iconst 1, 1) := by decide +kernel
theorem dX11_mondays_2 : decode cX11_mondays 2 = .ok (.if_icmp .lt 9, 3) := by decide +kernel
theorem dX11_mondays_5 : decode cX11_mondays 5 = .ok (.iload_n 1, 1) := by decide +kernel
theorem dX11_mondays_6 : decode cX11_mondays 6 = .ok (.bipush 60, 2) := by decide +kernel
theorem dX11_mondays_8 : decode cX11_mondays 8 = .ok (.if_icmp .le 5, 3) := by decide +kernel
theorem dX11_mondays_11 : decode cX11_mondays 11 = .ok (.iconst (-1), 1) := by decide +kernel
theorem dX11_mondays_12 : decode cX11_mondays 12 = .ok (.ireturn, 1) := by decide +kernel
theorem dX11_mondays_13 : decode cX11_mondays 13 = .ok (.iload_n 1, 1) := by decide +kernel
theorem dX11_mondays_14 : decode cX11_mondays 14 = .ok (.sipush 200, 3) := by decide +kernel
theorem dX11_mondays_17 : decode cX11_mondays 17 = .ok (.aload_n 0, 1) := by decide +kernel
theorem dX11_mondays_18 : decode cX11_mondays 18 = .ok (.getfield 40, 3) := by decide +kernel
theorem dX11_mondays_21 : decode cX11_mondays 21 = .ok (.getfield 203, 3) := by decide +kernel
theorem dX11_mondays_24 : decode cX11_mondays 24 = .ok (.isub, 1) := by decide +kernel
theorem dX11_mondays_25 : decode cX11_mondays 25 = .ok (.invokestatic 248, 3) := by decide +kernel
theorem dX11_mondays_28 : decode cX11_mondays 28 = .ok (.istore_n 2, 1) := by decide +kernel
theorem dX11_mondays_29 : decode cX11_mondays 29 = .ok (.iload_n 2, 1) := by decide +kernel
theorem dX11_mondays_30 : decode cX11_mondays 30 = .ok (.ifCond .le 22, 3) := by decide +kernel
theorem dX11_mondays_33 : decode cX11_mondays 33 = .ok (.aload_n 0, 1) := by decide +kernel
theorem dX11_mondays_34 : decode cX11_mondays 34 = .ok (.getfield 50, 3) := by decide +kernel
theorem dX11_mondays_37 : decode cX11_mondays 37 = .ok (.aload_n 0, 1) := by decide +kernel
theorem dX11_mondays_38 : decode cX11_mondays 38 = .ok (.getfield 40, 3) := by decide +kernel
theorem dX11_mondays_41 : decode cX11_mondays 41 = .ok (.invokevirtual 237, 3) := by decide +kernel
theorem dX11_mondays_44 : decode cX11_mondays 44 = .ok (.aload_n 0, 1) := by decide +kernel
theorem dX11_mondays_45 : decode cX11_mondays 45 = .ok (.getfield 40, 3) := by decide +kernel
theorem dX11_mondays_48 : decode cX11_mondays 48 = .ok (.iload_n 2, 1) := by decide +kernel
theorem dX11_mondays_49 : decode cX11_mondays 49 = .ok (.invokevirtual 253, 3) := by decide +kernel
theorem dX11_mondays_52 : decode cX11_mondays 52 = .ok (.iload_n 2, 1) := by decide +kernel
theorem dX11_mondays_53 : decode cX11_mondays 53 = .ok (.ireturn, 1) := by decide +kernel
theorem dX11_must_0 : decode cX11_must 0 = .ok (.iload_n 1, 1) := by decide +kernel
theorem dX11_must_1 : decode cX11_must 1 = .ok (.ifCond .lt 10, 3) := by decide +kernel
theorem dX11_must_4 : decode cX11_must 4 = .ok (.iload_n 1, 1) := by decide +kernel
theorem dX11_must_5 : decode cX11_must 5 = .ok (.sipush 200, 3) := by decide +kernel
theorem dX11_must_8 : decode cX11_must 8 = .ok (.if_icmp .lt 5, 3) := by decide +kernel
theorem dX11_must_11 : decode cX11_must 11 = .ok (.iconst (-1), 1) := by decide +kernel
theorem dX11_must_12 : decode cX11_must 12 = .ok (.ireturn, 1) := by decide +kernel
theorem dX11_must_13 : decode cX11_must 13 = .ok (.aload_n 0, 1) := by decide +kernel
theorem dX11_must_14 : decode cX11_must 14 = .ok (.getfield 40, 3) := by decide +kernel
theorem dX11_must_17 : decode cX11_must 17 = .ok (.invokevirtual 209, 3) := by decide +kernel
theorem dX11_must_20 : decode cX11_must 20 = .ok (.istore_n 2, 1) := by decide +kernel
theorem dX11_must_21 : decode cX11_must 21 = .ok (.iconst 0, 1) := by decide +kernel
theorem dX11_must_22 : decode cX11_must 22 = .ok (.istore_n 3, 1) := by decide +kernel
theorem dX11_must_23 : decode cX11_must 23 = .ok (.iload_n 3, 1) := by decide +kernel
theorem dX11_must_24 : decode cX11_must 24 = .ok (.aload_n 0, 1) := by decide +kernel
theorem dX11_must_25 : decode cX11_must 25 = .ok (.getfield 19, 3) := by decide +kernel
theorem dX11_must_28 : decode cX11_must 28 = .ok (.getfield 216, 3) := by decide +kernel
theorem dX11_must_31 : decode cX11_must 31 = .ok (.if_icmp .ge 62, 3) := by decide +kernel
theorem dX11_must_93 : decode cX11_must 93 = .ok (.iload_n 2, 1) := by decide +kernel
theorem dX11_must_94 : decode cX11_must 94 = .ok (.ireturn, 1) := by decide +kernel
theorem dX11_name_0 : decode cX11_name 0 = .ok (.aload_n 0, 1) := by decide +kernel
theorem dX11_name_1 : decode cX11_name 1 = .ok (.getfield 19, 3) := by decide +kernel
theorem dX11_name_4 : decode cX11_name 4 = .ok (.iload_n 1, 1) := by decide +kernel
theorem dX11_name_5 : decode cX11_name 5 = .ok (.invokevirtual 143, 3) := by decide +kernel
theorem dX11_name_8 : decode cX11_name 8 = .ok (.ifCond .ne 5, 3) := by decide +kernel
theorem dX11_name_11 : decode cX11_name 11 = .ok (.iconst (-1), 1) := by decide +kernel
theorem dX11_name_12 : decode cX11_name 12 = .ok (.ireturn, 1) := by decide +kernel
theorem dX11_now_0 : decode cX11_now 0 = .ok (.iload_n 1, 1) := by decide +kernel
theorem dX11_now_1 : decode cX11_now 1 = .ok (.tableswitch 119 0 6 #[43, 51, 59, 67, 75, 93, 111], 43) := by decide +kernel
theorem dX11_now_44 : decode cX11_now 44 = .ok (.aload_n 0, 1) := by decide +kernel
theorem dX11_now_45 : decode cX11_now 45 = .ok (.getfield 40, 3) := by decide +kernel
theorem dX11_now_48 : decode cX11_now 48 = .ok (.getfield 203, 3) := by decide +kernel
theorem dX11_now_51 : decode cX11_now 51 = .ok (.ireturn, 1) := by decide +kernel
theorem dX11_now_52 : decode cX11_now 52 = .ok (.aload_n 0, 1) := by decide +kernel
theorem dX11_now_53 : decode cX11_now 53 = .ok (.getfield 40, 3) := by decide +kernel
theorem dX11_now_56 : decode cX11_now 56 = .ok (.getfield 206, 3) := by decide +kernel
theorem dX11_now_59 : decode cX11_now 59 = .ok (.ireturn, 1) := by decide +kernel
theorem dX11_now_60 : decode cX11_now 60 = .ok (.aload_n 0, 1) := by decide +kernel
theorem dX11_now_61 : decode cX11_now 61 = .ok (.getfield 40, 3) := by decide +kernel
theorem dX11_now_64 : decode cX11_now 64 = .ok (.invokevirtual 209, 3) := by decide +kernel
theorem dX11_now_67 : decode cX11_now 67 = .ok (.ireturn, 1) := by decide +kernel
theorem dX11_now_68 : decode cX11_now 68 = .ok (.aload_n 0, 1) := by decide +kernel
theorem dX11_now_69 : decode cX11_now 69 = .ok (.getfield 40, 3) := by decide +kernel
theorem dX11_now_72 : decode cX11_now 72 = .ok (.getfield 213, 3) := by decide +kernel
theorem dX11_now_75 : decode cX11_now 75 = .ok (.ireturn, 1) := by decide +kernel
theorem dX11_now_76 : decode cX11_now 76 = .ok (.aload_n 0, 1) := by decide +kernel
theorem dX11_now_77 : decode cX11_now 77 = .ok (.getfield 40, 3) := by decide +kernel
theorem dX11_now_80 : decode cX11_now 80 = .ok (.getfield 178, 3) := by decide +kernel
theorem dX11_now_83 : decode cX11_now 83 = .ok (.aload_n 0, 1) := by decide +kernel
theorem dX11_now_84 : decode cX11_now 84 = .ok (.getfield 19, 3) := by decide +kernel
theorem dX11_now_87 : decode cX11_now 87 = .ok (.getfield 216, 3) := by decide +kernel
theorem dX11_now_90 : decode cX11_now 90 = .ok (.invokestatic 219, 3) := by decide +kernel
theorem dX11_now_93 : decode cX11_now 93 = .ok (.ireturn, 1) := by decide +kernel
theorem dX11_now_94 : decode cX11_now 94 = .ok (.aload_n 0, 1) := by decide +kernel
theorem dX11_now_95 : decode cX11_now 95 = .ok (.getfield 40, 3) := by decide +kernel
theorem dX11_now_98 : decode cX11_now 98 = .ok (.getfield 154, 3) := by decide +kernel
theorem dX11_now_101 : decode cX11_now 101 = .ok (.aload_n 0, 1) := by decide +kernel
theorem dX11_now_102 : decode cX11_now 102 = .ok (.getfield 19, 3) := by decide +kernel
theorem dX11_now_105 : decode cX11_now 105 = .ok (.getfield 223, 3) := by decide +kernel
theorem dX11_now_108 : decode cX11_now 108 = .ok (.invokestatic 219, 3) := by decide +kernel
theorem dX11_now_111 : decode cX11_now 111 = .ok (.ireturn, 1) := by decide +kernel
theorem dX11_now_112 : decode cX11_now 112 = .ok (.aload_n 0, 1) := by decide +kernel
theorem dX11_now_113 : decode cX11_now 113 = .ok (.getfield 40, 3) := by decide +kernel
theorem dX11_now_116 : decode cX11_now 116 = .ok (.getfield 226, 3) := by decide +kernel
theorem dX11_now_119 : decode cX11_now 119 = .ok (.ireturn, 1) := by decide +kernel
theorem dX11_now_120 : decode cX11_now 120 = .ok (.iconst (-1), 1) := by decide +kernel
theorem dX11_now_121 : decode cX11_now 121 = .ok (.ireturn, 1) := by decide +kernel
theorem dX11_odds_0 : decode cX11_odds 0 = .ok (.aload_n 0, 1) := by decide +kernel
theorem dX11_odds_1 : decode cX11_odds 1 = .ok (.getfield 19, 3) := by decide +kernel
theorem dX11_odds_4 : decode cX11_odds 4 = .ok (.iload_n 1, 1) := by decide +kernel
theorem dX11_odds_5 : decode cX11_odds 5 = .ok (.invokevirtual 169, 3) := by decide +kernel
theorem dX11_odds_8 : decode cX11_odds 8 = .ok (.ifCond .eq 24, 3) := by decide +kernel
theorem dX11_odds_32 : decode cX11_odds 32 = .ok (.iconst (-1), 1) := by decide +kernel
theorem dX11_odds_33 : decode cX11_odds 33 = .ok (.ireturn, 1) := by decide +kernel
theorem dX11_partner_0 : decode cX11_partner 0 = .ok (.aload_n 0, 1) := by decide +kernel
theorem dX11_partner_1 : decode cX11_partner 1 = .ok (.getfield 19, 3) := by decide +kernel
theorem dX11_partner_4 : decode cX11_partner 4 = .ok (.iload_n 1, 1) := by decide +kernel
theorem dX11_partner_5 : decode cX11_partner 5 = .ok (.invokevirtual 169, 3) := by decide +kernel
theorem dX11_partner_8 : decode cX11_partner 8 = .ok (.ifCond .eq 14, 3) := by decide +kernel
theorem dX11_partner_22 : decode cX11_partner 22 = .ok (.iconst (-1), 1) := by decide +kernel
theorem dX11_partner_23 : decode cX11_partner 23 = .ok (.ireturn, 1) := by decide +kernel
theorem dX11_party_0 : decode cX11_party 0 = .ok (.iconst (-1), 1) := by decide +kernel
theorem dX11_party_1 : decode cX11_party 1 = .ok (.istore_n 1, 1) := by decide +kernel
theorem dX11_party_2 : decode cX11_party 2 = .ok (.iconst 0, 1) := by decide +kernel
theorem dX11_party_3 : decode cX11_party 3 = .ok (.istore_n 2, 1) := by decide +kernel
theorem dX11_party_4 : decode cX11_party 4 = .ok (.iload_n 2, 1) := by decide +kernel
theorem dX11_party_5 : decode cX11_party 5 = .ok (.iconst 1, 1) := by decide +kernel
theorem dX11_party_6 : decode cX11_party 6 = .ok (.aload_n 0, 1) := by decide +kernel
theorem dX11_party_7 : decode cX11_party 7 = .ok (.getfield 19, 3) := by decide +kernel
theorem dX11_party_10 : decode cX11_party 10 = .ok (.getfield 216, 3) := by decide +kernel
theorem dX11_party_13 : decode cX11_party 13 = .ok (.ishl, 1) := by decide +kernel
theorem dX11_party_14 : decode cX11_party 14 = .ok (.if_icmp .ge 74, 3) := by decide +kernel
theorem dX11_party_17 : decode cX11_party 17 = .ok (.iload_n 2, 1) := by decide +kernel
theorem dX11_party_18 : decode cX11_party 18 = .ok (.aload_n 0, 1) := by decide +kernel
theorem dX11_party_19 : decode cX11_party 19 = .ok (.getfield 40, 3) := by decide +kernel
theorem dX11_party_22 : decode cX11_party 22 = .ok (.getfield 206, 3) := by decide +kernel
theorem dX11_party_25 : decode cX11_party 25 = .ok (.iconst (-1), 1) := by decide +kernel
theorem dX11_party_26 : decode cX11_party 26 = .ok (.ixor, 1) := by decide +kernel
theorem dX11_party_27 : decode cX11_party 27 = .ok (.iand, 1) := by decide +kernel
theorem dX11_party_28 : decode cX11_party 28 = .ok (.ifCond .ne 7, 3) := by decide +kernel
theorem dX11_party_31 : decode cX11_party 31 = .ok (.iconst 1, 1) := by decide +kernel
theorem dX11_party_32 : decode cX11_party 32 = .ok (.goto 4, 3) := by decide +kernel
theorem dX11_party_36 : decode cX11_party 36 = .ok (.istore_n 3, 1) := by decide +kernel
theorem dX11_party_37 : decode cX11_party 37 = .ok (.iload_n 1, 1) := by decide +kernel
theorem dX11_party_38 : decode cX11_party 38 = .ok (.iconst (-1), 1) := by decide +kernel
theorem dX11_party_39 : decode cX11_party 39 = .ok (.if_icmp .eq 14, 3) := by decide +kernel
theorem dX11_party_53 : decode cX11_party 53 = .ok (.iconst 1, 1) := by decide +kernel
theorem dX11_party_54 : decode cX11_party 54 = .ok (.goto 4, 3) := by decide +kernel
theorem dX11_party_58 : decode cX11_party 58 = .ok (.istore 4, 2) := by decide +kernel
theorem dX11_party_60 : decode cX11_party 60 = .ok (.iload_n 3, 1) := by decide +kernel
theorem dX11_party_61 : decode cX11_party 61 = .ok (.ifCond .eq 21, 3) := by decide +kernel
theorem dX11_party_64 : decode cX11_party 64 = .ok (.iload 4, 2) := by decide +kernel
theorem dX11_party_66 : decode cX11_party 66 = .ok (.ifCond .eq 16, 3) := by decide +kernel
theorem dX11_party_69 : decode cX11_party 69 = .ok (.aload_n 0, 1) := by decide +kernel
theorem dX11_party_70 : decode cX11_party 70 = .ok (.getfield 40, 3) := by decide +kernel
theorem dX11_party_73 : decode cX11_party 73 = .ok (.iload_n 2, 1) := by decide +kernel
theorem dX11_party_74 : decode cX11_party 74 = .ok (.invokevirtual 299, 3) := by decide +kernel
theorem dX11_party_77 : decode cX11_party 77 = .ok (.ifCond .eq 5, 3) := by decide +kernel
theorem dX11_party_82 : decode cX11_party 82 = .ok (.iinc 2 1, 3) := by decide +kernel
theorem dX11_party_85 : decode cX11_party 85 = .ok (.goto (-81), 3) := by decide +kernel
theorem dX11_party_88 : decode cX11_party 88 = .ok (.iload_n 1, 1) := by decide +kernel
theorem dX11_party_89 : decode cX11_party 89 = .ok (.ireturn, 1) := by decide +kernel
theorem dX11_pay_0 : decode cX11_pay 0 = .ok (.aload_n 0, 1) := by decide +kernel
theorem dX11_pay_1 : decode cX11_pay 1 = .ok (.getfield 19, 3) := by decide +kernel
theorem dX11_pay_4 : decode cX11_pay 4 = .ok (.iload_n 1, 1) := by decide +kernel
theorem dX11_pay_5 : decode cX11_pay 5 = .ok (.invokevirtual 169, 3) := by decide +kernel
theorem dX11_pay_8 : decode cX11_pay 8 = .ok (.ifCond .eq 24, 3) := by decide +kernel
theorem dX11_pay_32 : decode cX11_pay 32 = .ok (.iconst (-1), 1) := by decide +kernel
theorem dX11_pay_33 : decode cX11_pay 33 = .ok (.ireturn, 1) := by decide +kernel
theorem dX11_queue_0 : decode cX11_queue 0 = .ok (.iload_n 1, 1) := by decide +kernel
theorem dX11_queue_1 : decode cX11_queue 1 = .ok (.ifCond .lt 26, 3) := by decide +kernel
theorem dX11_queue_4 : decode cX11_queue 4 = .ok (.iload_n 1, 1) := by decide +kernel
theorem dX11_queue_5 : decode cX11_queue 5 = .ok (.aload_n 0, 1) := by decide +kernel
theorem dX11_queue_6 : decode cX11_queue 6 = .ok (.getfield 40, 3) := by decide +kernel
theorem dX11_queue_9 : decode cX11_queue 9 = .ok (.getfield 213, 3) := by decide +kernel
theorem dX11_queue_12 : decode cX11_queue 12 = .ok (.if_icmp .ge 15, 3) := by decide +kernel
theorem dX11_queue_27 : decode cX11_queue 27 = .ok (.iconst (-1), 1) := by decide +kernel
theorem dX11_queue_28 : decode cX11_queue 28 = .ok (.ireturn, 1) := by decide +kernel
theorem dX11_restore_0 : decode cX11_restore 0 = .ok (.iload_n 1, 1) := by decide +kernel
theorem dX11_restore_1 : decode cX11_restore 1 = .ok (.ifCond .lt 20, 3) := by decide +kernel
theorem dX11_restore_4 : decode cX11_restore 4 = .ok (.iload_n 1, 1) := by decide +kernel
theorem dX11_restore_5 : decode cX11_restore 5 = .ok (.iconst 2, 1) := by decide +kernel
theorem dX11_restore_6 : decode cX11_restore 6 = .ok (.if_icmp .ge 15, 3) := by decide +kernel
theorem dX11_restore_9 : decode cX11_restore 9 = .ok (.aload_n 0, 1) := by decide +kernel
theorem dX11_restore_10 : decode cX11_restore 10 = .ok (.getfield 96, 3) := by decide +kernel
theorem dX11_restore_13 : decode cX11_restore 13 = .ok (.iload_n 1, 1) := by decide +kernel
theorem dX11_restore_14 : decode cX11_restore 14 = .ok (.aaload, 1) := by decide +kernel
theorem dX11_restore_15 : decode cX11_restore 15 = .ok (.getfield 361, 3) := by decide +kernel
theorem dX11_restore_18 : decode cX11_restore 18 = .ok (.ifCond .ne 5, 3) := by decide +kernel
theorem dX11_restore_21 : decode cX11_restore 21 = .ok (.iconst 0, 1) := by decide +kernel
theorem dX11_restore_22 : decode cX11_restore 22 = .ok (.ireturn, 1) := by decide +kernel
theorem dX11_roll_0 : decode cX11_roll 0 = .ok (.iload_n 1, 1) := by decide +kernel
theorem dX11_roll_1 : decode cX11_roll 1 = .ok (.ifCond .lt 8, 3) := by decide +kernel
theorem dX11_roll_4 : decode cX11_roll 4 = .ok (.iload_n 1, 1) := by decide +kernel
theorem dX11_roll_5 : decode cX11_roll 5 = .ok (.iconst 1, 1) := by decide +kernel
theorem dX11_roll_6 : decode cX11_roll 6 = .ok (.if_icmp .le 7, 3) := by decide +kernel
theorem dX11_roll_9 : decode cX11_roll 9 = .ok (.sipush (-1000), 3) := by decide +kernel
theorem dX11_roll_12 : decode cX11_roll 12 = .ok (.ireturn, 1) := by decide +kernel
theorem dX11_roll_13 : decode cX11_roll 13 = .ok (.aload_n 0, 1) := by decide +kernel
theorem dX11_roll_14 : decode cX11_roll 14 = .ok (.getfield 57, 3) := by decide +kernel
theorem dX11_roll_17 : decode cX11_roll 17 = .ok (.invokevirtual 327, 3) := by decide +kernel
theorem dX11_roll_20 : decode cX11_roll 20 = .ok (.istore_n 2, 1) := by decide +kernel
theorem dX11_roll_21 : decode cX11_roll 21 = .ok (.aload_n 0, 1) := by decide +kernel
theorem dX11_roll_22 : decode cX11_roll 22 = .ok (.getfield 10, 3) := by decide +kernel
theorem dX11_roll_25 : decode cX11_roll 25 = .ok (.iconst 0, 1) := by decide +kernel
theorem dX11_roll_26 : decode cX11_roll 26 = .ok (.putfield 111, 3) := by decide +kernel
theorem dX11_roll_29 : decode cX11_roll 29 = .ok (.aload_n 0, 1) := by decide +kernel
theorem dX11_roll_30 : decode cX11_roll 30 = .ok (.aload_n 0, 1) := by decide +kernel
theorem dX11_roll_31 : decode cX11_roll 31 = .ok (.getfield 10, 3) := by decide +kernel
theorem dX11_roll_34 : decode cX11_roll 34 = .ok (.getfield 119, 3) := by decide +kernel
theorem dX11_roll_37 : decode cX11_roll 37 = .ok (.putfield 122, 3) := by decide +kernel
theorem dX11_roll_40 : decode cX11_roll 40 = .ok (.iload_n 2, 1) := by decide +kernel
theorem dX11_roll_41 : decode cX11_roll 41 = .ok (.ifCond .ne 14, 3) := by decide +kernel
theorem dX11_roll_55 : decode cX11_roll 55 = .ok (.iload_n 1, 1) := by decide +kernel
theorem dX11_roll_56 : decode cX11_roll 56 = .ok (.iconst 1, 1) := by decide +kernel
theorem dX11_roll_57 : decode cX11_roll 57 = .ok (.if_icmp .ne 26, 3) := by decide +kernel
theorem dX11_roll_60 : decode cX11_roll 60 = .ok (.aload_n 0, 1) := by decide +kernel
theorem dX11_roll_61 : decode cX11_roll 61 = .ok (.getfield 50, 3) := by decide +kernel
theorem dX11_roll_64 : decode cX11_roll 64 = .ok (.aload_n 0, 1) := by decide +kernel
theorem dX11_roll_65 : decode cX11_roll 65 = .ok (.getfield 40, 3) := by decide +kernel
theorem dX11_roll_68 : decode cX11_roll 68 = .ok (.invokevirtual 237, 3) := by decide +kernel
theorem dX11_roll_71 : decode cX11_roll 71 = .ok (.aload_n 0, 1) := by decide +kernel
theorem dX11_roll_72 : decode cX11_roll 72 = .ok (.getfield 57, 3) := by decide +kernel
theorem dX11_roll_75 : decode cX11_roll 75 = .ok (.aload_n 0, 1) := by decide +kernel
theorem dX11_roll_76 : decode cX11_roll 76 = .ok (.getfield 40, 3) := by decide +kernel
theorem dX11_roll_79 : decode cX11_roll 79 = .ok (.invokevirtual 328, 3) := by decide +kernel
theorem dX11_roll_82 : decode cX11_roll 82 = .ok (.ireturn, 1) := by decide +kernel
theorem dX11_roll_83 : decode cX11_roll 83 = .ok (.aload_n 0, 1) := by decide +kernel
theorem dX11_roll_84 : decode cX11_roll 84 = .ok (.getfield 44, 3) := by decide +kernel
theorem dX11_roll_87 : decode cX11_roll 87 = .ok (.aload_n 0, 1) := by decide +kernel
theorem dX11_roll_88 : decode cX11_roll 88 = .ok (.getfield 40, 3) := by decide +kernel
theorem dX11_roll_91 : decode cX11_roll 91 = .ok (.invokevirtual 325, 3) := by decide +kernel
theorem dX11_roll_94 : decode cX11_roll 94 = .ok (.aload_n 0, 1) := by decide +kernel
theorem dX11_roll_95 : decode cX11_roll 95 = .ok (.getfield 57, 3) := by decide +kernel
theorem dX11_roll_98 : decode cX11_roll 98 = .ok (.aload_n 0, 1) := by decide +kernel
theorem dX11_roll_99 : decode cX11_roll 99 = .ok (.getfield 44, 3) := by decide +kernel
theorem dX11_roll_102 : decode cX11_roll 102 = .ok (.invokevirtual 328, 3) := by decide +kernel
theorem dX11_roll_105 : decode cX11_roll 105 = .ok (.ireturn, 1) := by decide +kernel
theorem dX11_rolled_0 : decode cX11_rolled 0 = .ok (.aload_n 0, 1) := by decide +kernel
theorem dX11_rolled_1 : decode cX11_rolled 1 = .ok (.getfield 57, 3) := by decide +kernel
theorem dX11_rolled_4 : decode cX11_rolled 4 = .ok (.getfield 332, 3) := by decide +kernel
theorem dX11_rolled_7 : decode cX11_rolled 7 = .ok (.ifCond .ne 5, 3) := by decide +kernel
theorem dX11_rolled_10 : decode cX11_rolled 10 = .ok (.iconst (-1), 1) := by decide +kernel
theorem dX11_rolled_11 : decode cX11_rolled 11 = .ok (.ireturn, 1) := by decide +kernel
theorem dX11_said_0 : decode cX11_said 0 = .ok (.aload_n 0, 1) := by decide +kernel
theorem dX11_said_1 : decode cX11_said 1 = .ok (.getfield 64, 3) := by decide +kernel
theorem dX11_said_4 : decode cX11_said 4 = .ok (.getfield 137, 3) := by decide +kernel
theorem dX11_said_7 : decode cX11_said 7 = .ok (.ifCond .ne 5, 3) := by decide +kernel
theorem dX11_said_10 : decode cX11_said 10 = .ok (.iconst (-1), 1) := by decide +kernel
theorem dX11_said_11 : decode cX11_said 11 = .ok (.ireturn, 1) := by decide +kernel
theorem dX11_sell_0 : decode cX11_sell 0 = .ok (.aload_n 0, 1) := by decide +kernel
theorem dX11_sell_1 : decode cX11_sell 1 = .ok (.iload_n 1, 1) := by decide +kernel
theorem dX11_sell_2 : decode cX11_sell 2 = .ok (.iload_n 2, 1) := by decide +kernel
theorem dX11_sell_3 : decode cX11_sell 3 = .ok (.invokevirtual 233, 3) := by decide +kernel
theorem dX11_sell_6 : decode cX11_sell 6 = .ok (.ifCond .eq 13, 3) := by decide +kernel
theorem dX11_sell_19 : decode cX11_sell 19 = .ok (.iconst (-1), 1) := by decide +kernel
theorem dX11_sell_20 : decode cX11_sell 20 = .ok (.ireturn, 1) := by decide +kernel
theorem dX11_sentence_0 : decode cX11_sentence 0 = .ok (.aload_n 0, 1) := by decide +kernel
theorem dX11_sentence_1 : decode cX11_sentence 1 = .ok (.getfield 68, 3) := by decide +kernel
theorem dX11_sentence_4 : decode cX11_sentence 4 = .ok (.invokevirtual 348, 3) := by decide +kernel
theorem dX11_sentence_7 : decode cX11_sentence 7 = .ok (.istore_n 1, 1) := by decide +kernel
theorem dX11_sentence_8 : decode cX11_sentence 8 = .ok (.aload_n 0, 1) := by decide +kernel
theorem dX11_sentence_9 : decode cX11_sentence 9 = .ok (.getfield 10, 3) := by decide +kernel
theorem dX11_sentence_12 : decode cX11_sentence 12 = .ok (.iconst 0, 1) := by decide +kernel
theorem dX11_sentence_13 : decode cX11_sentence 13 = .ok (.putfield 111, 3) := by decide +kernel
theorem dX11_sentence_16 : decode cX11_sentence 16 = .ok (.aload_n 0, 1) := by decide +kernel
theorem dX11_sentence_17 : decode cX11_sentence 17 = .ok (.aload_n 0, 1) := by decide +kernel
theorem dX11_sentence_18 : decode cX11_sentence 18 = .ok (.getfield 10, 3) := by decide +kernel
theorem dX11_sentence_21 : decode cX11_sentence 21 = .ok (.getfield 119, 3) := by decide +kernel
theorem dX11_sentence_24 : decode cX11_sentence 24 = .ok (.putfield 122, 3) := by decide +kernel
theorem dX11_sentence_27 : decode cX11_sentence 27 = .ok (.iload_n 1, 1) := by decide +kernel
theorem dX11_sentence_28 : decode cX11_sentence 28 = .ok (.ifCond .ne 13, 3) := by decide +kernel
theorem dX11_sentence_31 : decode cX11_sentence 31 = .ok (.iconst (-1), 1) := by decide +kernel
theorem dX11_sentence_32 : decode cX11_sentence 32 = .ok (.aload_n 0, 1) := by decide +kernel
theorem dX11_sentence_33 : decode cX11_sentence 33 = .ok (.getfield 10, 3) := by decide +kernel
theorem dX11_sentence_36 : decode cX11_sentence 36 = .ok (.getfield 125, 3) := by decide +kernel
theorem dX11_sentence_39 : decode cX11_sentence 39 = .ok (.isub, 1) := by decide +kernel
theorem dX11_sentence_40 : decode cX11_sentence 40 = .ok (.ireturn, 1) := by decide +kernel
theorem dX11_sum_0 : decode cX11_sum 0 = .ok (.iconst 0, 1) := by decide +kernel
theorem dX11_sum_1 : decode cX11_sum 1 = .ok (.istore_n 2, 1) := by decide +kernel
theorem dX11_sum_2 : decode cX11_sum 2 = .ok (.iconst 0, 1) := by decide +kernel
theorem dX11_sum_3 : decode cX11_sum 3 = .ok (.istore_n 3, 1) := by decide +kernel
theorem dX11_sum_4 : decode cX11_sum 4 = .ok (.iload_n 3, 1) := by decide +kernel
theorem dX11_sum_5 : decode cX11_sum 5 = .ok (.iload_n 1, 1) := by decide +kernel
theorem dX11_sum_6 : decode cX11_sum 6 = .ok (.if_icmp .ge 21, 3) := by decide +kernel
theorem dX11_sum_27 : decode cX11_sum 27 = .ok (.iload_n 2, 1) := by decide +kernel
theorem dX11_sum_28 : decode cX11_sum 28 = .ok (.ireturn, 1) := by decide +kernel
theorem dX11_swap_0 : decode cX11_swap 0 = .ok (.aload_n 0, 1) := by decide +kernel
theorem dX11_swap_1 : decode cX11_swap 1 = .ok (.iload_n 1, 1) := by decide +kernel
theorem dX11_swap_2 : decode cX11_swap 2 = .ok (.iload_n 2, 1) := by decide +kernel
theorem dX11_swap_3 : decode cX11_swap 3 = .ok (.invokevirtual 233, 3) := by decide +kernel
theorem dX11_swap_6 : decode cX11_swap 6 = .ok (.ifCond .eq 13, 3) := by decide +kernel
theorem dX11_swap_19 : decode cX11_swap 19 = .ok (.iconst (-1), 1) := by decide +kernel
theorem dX11_swap_20 : decode cX11_swap 20 = .ok (.ireturn, 1) := by decide +kernel
theorem dX11_swaps_0 : decode cX11_swaps 0 = .ok (.aload_n 0, 1) := by decide +kernel
theorem dX11_swaps_1 : decode cX11_swaps 1 = .ok (.getfield 76, 3) := by decide +kernel
theorem dX11_swaps_4 : decode cX11_swaps 4 = .ok (.invokevirtual 278, 3) := by decide +kernel
theorem dX11_swaps_7 : decode cX11_swaps 7 = .ok (.ireturn, 1) := by decide +kernel
theorem dX11_take_0 : decode cX11_take 0 = .ok (.aload_n 0, 1) := by decide +kernel
theorem dX11_take_1 : decode cX11_take 1 = .ok (.getfield 19, 3) := by decide +kernel
theorem dX11_take_4 : decode cX11_take 4 = .ok (.iload_n 1, 1) := by decide +kernel
theorem dX11_take_5 : decode cX11_take 5 = .ok (.invokevirtual 169, 3) := by decide +kernel
theorem dX11_take_8 : decode cX11_take 8 = .ok (.ifCond .eq 24, 3) := by decide +kernel
theorem dX11_take_32 : decode cX11_take 32 = .ok (.iconst (-1), 1) := by decide +kernel
theorem dX11_take_33 : decode cX11_take 33 = .ok (.ireturn, 1) := by decide +kernel
theorem dX11_town_0 : decode cX11_town 0 = .ok (.aload_n 0, 1) := by decide +kernel
theorem dX11_town_1 : decode cX11_town 1 = .ok (.getfield 31, 3) := by decide +kernel
theorem dX11_town_4 : decode cX11_town 4 = .ok (.invokevirtual 115, 3) := by decide +kernel
theorem dX11_town_7 : decode cX11_town 7 = .ok (.istore_n 1, 1) := by decide +kernel
theorem dX11_town_8 : decode cX11_town 8 = .ok (.aload_n 0, 1) := by decide +kernel
theorem dX11_town_9 : decode cX11_town 9 = .ok (.getfield 10, 3) := by decide +kernel
theorem dX11_town_12 : decode cX11_town 12 = .ok (.iconst 0, 1) := by decide +kernel
theorem dX11_town_13 : decode cX11_town 13 = .ok (.putfield 111, 3) := by decide +kernel
theorem dX11_town_16 : decode cX11_town 16 = .ok (.aload_n 0, 1) := by decide +kernel
theorem dX11_town_17 : decode cX11_town 17 = .ok (.aload_n 0, 1) := by decide +kernel
theorem dX11_town_18 : decode cX11_town 18 = .ok (.getfield 10, 3) := by decide +kernel
theorem dX11_town_21 : decode cX11_town 21 = .ok (.getfield 119, 3) := by decide +kernel
theorem dX11_town_24 : decode cX11_town 24 = .ok (.putfield 122, 3) := by decide +kernel
theorem dX11_town_27 : decode cX11_town 27 = .ok (.iload_n 1, 1) := by decide +kernel
theorem dX11_town_28 : decode cX11_town 28 = .ok (.ifCond .ne 13, 3) := by decide +kernel
theorem dX11_town_41 : decode cX11_town 41 = .ok (.aload_n 0, 1) := by decide +kernel
theorem dX11_town_42 : decode cX11_town 42 = .ok (.getfield 19, 3) := by decide +kernel
theorem dX11_town_45 : decode cX11_town 45 = .ok (.aload_n 0, 1) := by decide +kernel
theorem dX11_town_46 : decode cX11_town 46 = .ok (.getfield 23, 3) := by decide +kernel
theorem dX11_town_49 : decode cX11_town 49 = .ok (.invokevirtual 128, 3) := by decide +kernel
theorem dX11_town_52 : decode cX11_town 52 = .ok (.aload_n 0, 1) := by decide +kernel
theorem dX11_town_53 : decode cX11_town 53 = .ok (.getfield 40, 3) := by decide +kernel
theorem dX11_town_56 : decode cX11_town 56 = .ok (.invokevirtual 131, 3) := by decide +kernel
theorem dX11_town_59 : decode cX11_town 59 = .ok (.aload_n 0, 1) := by decide +kernel
theorem dX11_town_60 : decode cX11_town 60 = .ok (.getfield 50, 3) := by decide +kernel
theorem dX11_town_63 : decode cX11_town 63 = .ok (.invokevirtual 134, 3) := by decide +kernel
theorem dX11_town_66 : decode cX11_town 66 = .ok (.aload_n 0, 1) := by decide +kernel
