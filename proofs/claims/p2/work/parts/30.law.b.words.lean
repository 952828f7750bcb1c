abbrev cL_law : ByteArray := code
theorem kw_1000 : Cond.methodLink RL 113 yX11_swaps ∈ xg := xg_in (List.mem_append_right _ (List.mem_of_getElem? (i := 1000) (by decide +kernel))) rfl
theorem kw_1001 : Cond.instanceMethod yX11_swaps ∈ xg := xg_in (List.mem_append_right _ (List.mem_of_getElem? (i := 1001) (by decide +kernel))) rfl
theorem kw_1002 : Cond.selects RX11 yX11_swaps yX11_swaps ∈ xg := xg_in (List.mem_append_right _ (List.mem_of_getElem? (i := 1002) (by decide +kernel))) rfl
theorem kw_1003 : Cond.code yX11_swaps cX11_swaps 1 (some .int) ∈ xg := xg_in (List.mem_append_right _ (List.mem_of_getElem? (i := 1003) (by decide +kernel))) rfl
theorem kw_1012 : Cond.methodLink RL 117 yX11_partner ∈ xg := xg_in (List.mem_append_right _ (List.mem_of_getElem? (i := 1012) (by decide +kernel))) rfl
theorem kw_1013 : Cond.instanceMethod yX11_partner ∈ xg := xg_in (List.mem_append_right _ (List.mem_of_getElem? (i := 1013) (by decide +kernel))) rfl
theorem kw_1014 : Cond.selects RX11 yX11_partner yX11_partner ∈ xg := xg_in (List.mem_append_right _ (List.mem_of_getElem? (i := 1014) (by decide +kernel))) rfl
theorem kw_1015 : Cond.code yX11_partner cX11_partner 2 (some .int) ∈ xg := xg_in (List.mem_append_right _ (List.mem_of_getElem? (i := 1015) (by decide +kernel))) rfl
theorem kw_1020 : Cond.methodLink RL 121 yX11_bidder ∈ xg := xg_in (List.mem_append_right _ (List.mem_of_getElem? (i := 1020) (by decide +kernel))) rfl
theorem kw_1021 : Cond.instanceMethod yX11_bidder ∈ xg := xg_in (List.mem_append_right _ (List.mem_of_getElem? (i := 1021) (by decide +kernel))) rfl
theorem kw_1022 : Cond.selects RX11 yX11_bidder yX11_bidder ∈ xg := xg_in (List.mem_append_right _ (List.mem_of_getElem? (i := 1022) (by decide +kernel))) rfl
theorem kw_1023 : Cond.code yX11_bidder cX11_bidder 2 (some .int) ∈ xg := xg_in (List.mem_append_right _ (List.mem_of_getElem? (i := 1023) (by decide +kernel))) rfl
theorem kw_1031 : Cond.methodLink RL 125 yX11_bid ∈ xg := xg_in (List.mem_append_right _ (List.mem_of_getElem? (i := 1031) (by decide +kernel))) rfl
theorem kw_1032 : Cond.instanceMethod yX11_bid ∈ xg := xg_in (List.mem_append_right _ (List.mem_of_getElem? (i := 1032) (by decide +kernel))) rfl
theorem kw_1033 : Cond.selects RX11 yX11_bid yX11_bid ∈ xg := xg_in (List.mem_append_right _ (List.mem_of_getElem? (i := 1033) (by decide +kernel))) rfl
theorem kw_1034 : Cond.code yX11_bid cX11_bid 2 (some .int) ∈ xg := xg_in (List.mem_append_right _ (List.mem_of_getElem? (i := 1034) (by decide +kernel))) rfl
theorem kw_1035 : Cond.methodLink RL 129 yX11_must ∈ xg := xg_in (List.mem_append_right _ (List.mem_of_getElem? (i := 1035) (by decide +kernel))) rfl
theorem kw_1036 : Cond.instanceMethod yX11_must ∈ xg := xg_in (List.mem_append_right _ (List.mem_of_getElem? (i := 1036) (by decide +kernel))) rfl
theorem kw_1037 : Cond.selects RX11 yX11_must yX11_must ∈ xg := xg_in (List.mem_append_right _ (List.mem_of_getElem? (i := 1037) (by decide +kernel))) rfl
theorem kw_1038 : Cond.code yX11_must cX11_must 4 (some .int) ∈ xg := xg_in (List.mem_append_right _ (List.mem_of_getElem? (i := 1038) (by decide +kernel))) rfl
theorem kw_1039 : Cond.methodLink RL 133 yX11_ledger ∈ xg := xg_in (List.mem_append_right _ (List.mem_of_getElem? (i := 1039) (by decide +kernel))) rfl
theorem kw_1040 : Cond.instanceMethod yX11_ledger ∈ xg := xg_in (List.mem_append_right _ (List.mem_of_getElem? (i := 1040) (by decide +kernel))) rfl
theorem kw_1041 : Cond.selects RX11 yX11_ledger yX11_ledger ∈ xg := xg_in (List.mem_append_right _ (List.mem_of_getElem? (i := 1041) (by decide +kernel))) rfl
theorem kw_1042 : Cond.code yX11_ledger cX11_ledger 2 (some .int) ∈ xg := xg_in (List.mem_append_right _ (List.mem_of_getElem? (i := 1042) (by decide +kernel))) rfl
theorem kw_1055 : Cond.methodLink RL 137 yX11_votes ∈ xg := xg_in (List.mem_append_right _ (List.mem_of_getElem? (i := 1055) (by decide +kernel))) rfl
theorem kw_1056 : Cond.instanceMethod yX11_votes ∈ xg := xg_in (List.mem_append_right _ (List.mem_of_getElem? (i := 1056) (by decide +kernel))) rfl
theorem kw_1057 : Cond.selects RX11 yX11_votes yX11_votes ∈ xg := xg_in (List.mem_append_right _ (List.mem_of_getElem? (i := 1057) (by decide +kernel))) rfl
theorem kw_1058 : Cond.code yX11_votes cX11_votes 2 (some .int) ∈ xg := xg_in (List.mem_append_right _ (List.mem_of_getElem? (i := 1058) (by decide +kernel))) rfl
theorem kw_1067 : Cond.methodLink RL 141 yX11_party ∈ xg := xg_in (List.mem_append_right _ (List.mem_of_getElem? (i := 1067) (by decide +kernel))) rfl
theorem kw_1068 : Cond.instanceMethod yX11_party ∈ xg := xg_in (List.mem_append_right _ (List.mem_of_getElem? (i := 1068) (by decide +kernel))) rfl
theorem kw_1069 : Cond.selects RX11 yX11_party yX11_party ∈ xg := xg_in (List.mem_append_right _ (List.mem_of_getElem? (i := 1069) (by decide +kernel))) rfl
theorem kw_1070 : Cond.code yX11_party cX11_party 5 (some .int) ∈ xg := xg_in (List.mem_append_right _ (List.mem_of_getElem? (i := 1070) (by decide +kernel))) rfl
theorem kw_1077 : Cond.methodLink RL 145 yX11_least ∈ xg := xg_in (List.mem_append_right _ (List.mem_of_getElem? (i := 1077) (by decide +kernel))) rfl
theorem kw_1078 : Cond.instanceMethod yX11_least ∈ xg := xg_in (List.mem_append_right _ (List.mem_of_getElem? (i := 1078) (by decide +kernel))) rfl
theorem kw_1079 : Cond.selects RX11 yX11_least yX11_least ∈ xg := xg_in (List.mem_append_right _ (List.mem_of_getElem? (i := 1079) (by decide +kernel))) rfl
theorem kw_1080 : Cond.code yX11_least cX11_least 2 (some .int) ∈ xg := xg_in (List.mem_append_right _ (List.mem_of_getElem? (i := 1080) (by decide +kernel))) rfl
theorem kw_1093 : Cond.methodLink RL 149 yX11_cheapest ∈ xg := xg_in (List.mem_append_right _ (List.mem_of_getElem? (i := 1093) (by decide +kernel))) rfl
theorem kw_1094 : Cond.instanceMethod yX11_cheapest ∈ xg := xg_in (List.mem_append_right _ (List.mem_of_getElem? (i := 1094) (by decide +kernel))) rfl
theorem kw_1095 : Cond.selects RX11 yX11_cheapest yX11_cheapest ∈ xg := xg_in (List.mem_append_right _ (List.mem_of_getElem? (i := 1095) (by decide +kernel))) rfl
theorem kw_1096 : Cond.code yX11_cheapest cX11_cheapest 1 (some .int) ∈ xg := xg_in (List.mem_append_right _ (List.mem_of_getElem? (i := 1096) (by decide +kernel))) rfl
theorem kw_1097 : Cond.methodLink RL 153 yX11_feasts ∈ xg := xg_in (List.mem_append_right _ (List.mem_of_getElem? (i := 1097) (by decide +kernel))) rfl
theorem kw_1098 : Cond.instanceMethod yX11_feasts ∈ xg := xg_in (List.mem_append_right _ (List.mem_of_getElem? (i := 1098) (by decide +kernel))) rfl
theorem kw_1099 : Cond.selects RX11 yX11_feasts yX11_feasts ∈ xg := xg_in (List.mem_append_right _ (List.mem_of_getElem? (i := 1099) (by decide +kernel))) rfl
theorem kw_1100 : Cond.code yX11_feasts cX11_feasts 6 (some .int) ∈ xg := xg_in (List.mem_append_right _ (List.mem_of_getElem? (i := 1100) (by decide +kernel))) rfl
theorem kw_1102 : Cond.methodLink RL 157 yX11_queue ∈ xg := xg_in (List.mem_append_right _ (List.mem_of_getElem? (i := 1102) (by decide +kernel))) rfl
theorem kw_1103 : Cond.instanceMethod yX11_queue ∈ xg := xg_in (List.mem_append_right _ (List.mem_of_getElem? (i := 1103) (by decide +kernel))) rfl
theorem kw_1104 : Cond.selects RX11 yX11_queue yX11_queue ∈ xg := xg_in (List.mem_append_right _ (List.mem_of_getElem? (i := 1104) (by decide +kernel))) rfl
theorem kw_1105 : Cond.code yX11_queue cX11_queue 2 (some .int) ∈ xg := xg_in (List.mem_append_right _ (List.mem_of_getElem? (i := 1105) (by decide +kernel))) rfl
theorem kw_1106 : Cond.methodLink RL 161 yX11_drawn ∈ xg := xg_in (List.mem_append_right _ (List.mem_of_getElem? (i := 1106) (by decide +kernel))) rfl
theorem kw_1107 : Cond.instanceMethod yX11_drawn ∈ xg := xg_in (List.mem_append_right _ (List.mem_of_getElem? (i := 1107) (by decide +kernel))) rfl
theorem kw_1108 : Cond.selects RX11 yX11_drawn yX11_drawn ∈ xg := xg_in (List.mem_append_right _ (List.mem_of_getElem? (i := 1108) (by decide +kernel))) rfl
theorem kw_1109 : Cond.code yX11_drawn cX11_drawn 3 (some .int) ∈ xg := xg_in (List.mem_append_right _ (List.mem_of_getElem? (i := 1109) (by decide +kernel))) rfl
theorem kw_1128 : Cond.methodLink RL 165 yX11_odds ∈ xg := xg_in (List.mem_append_right _ (List.mem_of_getElem? (i := 1128) (by decide +kernel))) rfl
theorem kw_1129 : Cond.instanceMethod yX11_odds ∈ xg := xg_in (List.mem_append_right _ (List.mem_of_getElem? (i := 1129) (by decide +kernel))) rfl
theorem kw_1130 : Cond.selects RX11 yX11_odds yX11_odds ∈ xg := xg_in (List.mem_append_right _ (List.mem_of_getElem? (i := 1130) (by decide +kernel))) rfl
theorem kw_1131 : Cond.code yX11_odds cX11_odds 6 (some .int) ∈ xg := xg_in (List.mem_append_right _ (List.mem_of_getElem? (i := 1131) (by decide +kernel))) rfl
theorem kw_1133 : Cond.methodLink RL 170 yX11_roll ∈ xg := xg_in (List.mem_append_right _ (List.mem_of_getElem? (i := 1133) (by decide +kernel))) rfl
theorem kw_1134 : Cond.instanceMethod yX11_roll ∈ xg := xg_in (List.mem_append_right _ (List.mem_of_getElem? (i := 1134) (by decide +kernel))) rfl
theorem kw_1135 : Cond.selects RX11 yX11_roll yX11_roll ∈ xg := xg_in (List.mem_append_right _ (List.mem_of_getElem? (i := 1135) (by decide +kernel))) rfl
theorem kw_1136 : Cond.code yX11_roll cX11_roll 3 (some .int) ∈ xg := xg_in (List.mem_append_right _ (List.mem_of_getElem? (i := 1136) (by decide +kernel))) rfl
theorem kw_1177 : Cond.methodLink RL 174 yX11_rolled ∈ xg := xg_in (List.mem_append_right _ (List.mem_of_getElem? (i := 1177) (by decide +kernel))) rfl
theorem kw_1178 : Cond.instanceMethod yX11_rolled ∈ xg := xg_in (List.mem_append_right _ (List.mem_of_getElem? (i := 1178) (by decide +kernel))) rfl
theorem kw_1179 : Cond.selects RX11 yX11_rolled yX11_rolled ∈ xg := xg_in (List.mem_append_right _ (List.mem_of_getElem? (i := 1179) (by decide +kernel))) rfl
theorem kw_1180 : Cond.code yX11_rolled cX11_rolled 2 (some .int) ∈ xg := xg_in (List.mem_append_right _ (List.mem_of_getElem? (i := 1180) (by decide +kernel))) rfl
theorem kw_1181 : Cond.methodLink RL 178 yX11_sentence ∈ xg := xg_in (List.mem_append_right _ (List.mem_of_getElem? (i := 1181) (by decide +kernel))) rfl
theorem kw_1182 : Cond.instanceMethod yX11_sentence ∈ xg := xg_in (List.mem_append_right _ (List.mem_of_getElem? (i := 1182) (by decide +kernel))) rfl
theorem kw_1183 : Cond.selects RX11 yX11_sentence yX11_sentence ∈ xg := xg_in (List.mem_append_right _ (List.mem_of_getElem? (i := 1183) (by decide +kernel))) rfl
theorem kw_1184 : Cond.code yX11_sentence cX11_sentence 2 (some .int) ∈ xg := xg_in (List.mem_append_right _ (List.mem_of_getElem? (i := 1184) (by decide +kernel))) rfl
theorem kw_1239 : Cond.methodLink RL 182 yX11_said ∈ xg := xg_in (List.mem_append_right _ (List.mem_of_getElem? (i := 1239) (by decide +kernel))) rfl
theorem kw_1240 : Cond.instanceMethod yX11_said ∈ xg := xg_in (List.mem_append_right _ (List.mem_of_getElem? (i := 1240) (by decide +kernel))) rfl
theorem kw_1241 : Cond.selects RX11 yX11_said yX11_said ∈ xg := xg_in (List.mem_append_right _ (List.mem_of_getElem? (i := 1241) (by decide +kernel))) rfl
theorem kw_1242 : Cond.code yX11_said cX11_said 3 (some .int) ∈ xg := xg_in (List.mem_append_right _ (List.mem_of_getElem? (i := 1242) (by decide +kernel))) rfl
theorem kw_1273 : Cond.methodLink RL 186 yX11_image ∈ xg := xg_in (List.mem_append_right _ (List.mem_of_getElem? (i := 1273) (by decide +kernel))) rfl
theorem kw_1274 : Cond.instanceMethod yX11_image ∈ xg := xg_in (List.mem_append_right _ (List.mem_of_getElem? (i := 1274) (by decide +kernel))) rfl
theorem kw_1275 : Cond.selects RX11 yX11_image yX11_image ∈ xg := xg_in (List.mem_append_right _ (List.mem_of_getElem? (i := 1275) (by decide +kernel))) rfl
theorem kw_1276 : Cond.code yX11_image cX11_image 2 (some .boolean) ∈ xg := xg_in (List.mem_append_right _ (List.mem_of_getElem? (i := 1276) (by decide +kernel))) rfl
theorem kw_1277 : Cond.methodLink RL 190 yX11_restore ∈ xg := xg_in (List.mem_append_right _ (List.mem_of_getElem? (i := 1277) (by decide +kernel))) rfl
theorem kw_1278 : Cond.instanceMethod yX11_restore ∈ xg := xg_in (List.mem_append_right _ (List.mem_of_getElem? (i := 1278) (by decide +kernel))) rfl
theorem kw_1279 : Cond.selects RX11 yX11_restore yX11_restore ∈ xg := xg_in (List.mem_append_right _ (List.mem_of_getElem? (i := 1279) (by decide +kernel))) rfl
theorem kw_1280 : Cond.code yX11_restore cX11_restore 2 (some .boolean) ∈ xg := xg_in (List.mem_append_right _ (List.mem_of_getElem? (i := 1280) (by decide +kernel))) rfl
theorem kw_1281 : Cond.methodLink RL 194 yX11_count ∈ xg := xg_in (List.mem_append_right _ (List.mem_of_getElem? (i := 1281) (by decide +kernel))) rfl
theorem kw_1282 : Cond.instanceMethod yX11_count ∈ xg := xg_in (List.mem_append_right _ (List.mem_of_getElem? (i := 1282) (by decide +kernel))) rfl
theorem kw_1283 : Cond.selects RX11 yX11_count yX11_count ∈ xg := xg_in (List.mem_append_right _ (List.mem_of_getElem? (i := 1283) (by decide +kernel))) rfl
theorem kw_1284 : Cond.code yX11_count cX11_count 2 (some .int) ∈ xg := xg_in (List.mem_append_right _ (List.mem_of_getElem? (i := 1284) (by decide +kernel))) rfl
theorem kw_1289 : Cond.methodLink RL 7 yX11_soul ∈ xg := xg_in (List.mem_append_right _ (List.mem_of_getElem? (i := 1289) (by decide +kernel))) rfl
theorem kw_1290 : Cond.instanceMethod yX11_soul ∈ xg := xg_in (List.mem_append_right _ (List.mem_of_getElem? (i := 1290) (by decide +kernel))) rfl
theorem kw_1291 : Cond.selects RX11 yX11_soul yX11_soul ∈ xg := xg_in (List.mem_append_right _ (List.mem_of_getElem? (i := 1291) (by decide +kernel))) rfl
theorem kw_1292 : Cond.code yX11_soul cX11_soul 3 (some .int) ∈ xg := xg_in (List.mem_append_right _ (List.mem_of_getElem? (i := 1292) (by decide +kernel))) rfl
theorem kw_1358 : Cond.methodLink RL 23 yX12_feed ∈ xg := xg_in (List.mem_append_right _ (List.mem_of_getElem? (i := 1358) (by decide +kernel))) rfl
theorem kw_1359 : Cond.instanceMethod yX12_feed ∈ xg := xg_in (List.mem_append_right _ (List.mem_of_getElem? (i := 1359) (by decide +kernel))) rfl
theorem kw_1360 : Cond.selects RX12 yX12_feed yX12_feed ∈ xg := xg_in (List.mem_append_right _ (List.mem_of_getElem? (i := 1360) (by decide +kernel))) rfl
theorem kw_1361 : Cond.code yX12_feed cX12_feed 6 (some .int) ∈ xg := xg_in (List.mem_append_right _ (List.mem_of_getElem? (i := 1361) (by decide +kernel))) rfl
theorem kw_1367 : Cond.methodLink RL 28 yX12_end ∈ xg := xg_in (List.mem_append_right _ (List.mem_of_getElem? (i := 1367) (by decide +kernel))) rfl
theorem kw_1368 : Cond.instanceMethod yX12_end ∈ xg := xg_in (List.mem_append_right _ (List.mem_of_getElem? (i := 1368) (by decide +kernel))) rfl
theorem kw_1369 : Cond.selects RX12 yX12_end yX12_end ∈ xg := xg_in (List.mem_append_right _ (List.mem_of_getElem? (i := 1369) (by decide +kernel))) rfl
theorem kw_1370 : Cond.code yX12_end cX12_end 2 (some .boolean) ∈ xg := xg_in (List.mem_append_right _ (List.mem_of_getElem? (i := 1370) (by decide +kernel))) rfl
theorem kw_1372 : Cond.methodLink RL 18 yX12_init ∈ xg := xg_in (List.mem_append_right _ (List.mem_of_getElem? (i := 1372) (by decide +kernel))) rfl
theorem kw_1374 : Cond.code yX12_init cX12_init 1 none ∈ xg := xg_in (List.mem_append_right _ (List.mem_of_getElem? (i := 1374) (by decide +kernel))) rfl
theorem kw_1537 : Cond.methodLink RL 33 yX12_town ∈ xg := xg_in (List.mem_append_right _ (List.mem_of_getElem? (i := 1537) (by decide +kernel))) rfl
theorem kw_1538 : Cond.instanceMethod yX12_town ∈ xg := xg_in (List.mem_append_right _ (List.mem_of_getElem? (i := 1538) (by decide +kernel))) rfl
theorem kw_1539 : Cond.selects RX12 yX12_town yX12_town ∈ xg := xg_in (List.mem_append_right _ (List.mem_of_getElem? (i := 1539) (by decide +kernel))) rfl
theorem kw_1540 : Cond.code yX12_town cX12_town 2 (some .int) ∈ xg := xg_in (List.mem_append_right _ (List.mem_of_getElem? (i := 1540) (by decide +kernel))) rfl
theorem kw_1617 : Cond.methodLink RL 37 yX12_fault ∈ xg := xg_in (List.mem_append_right _ (List.mem_of_getElem? (i := 1617) (by decide +kernel))) rfl
theorem kw_1618 : Cond.instanceMethod yX12_fault ∈ xg := xg_in (List.mem_append_right _ (List.mem_of_getElem? (i := 1618) (by decide +kernel))) rfl
theorem kw_1619 : Cond.selects RX12 yX12_fault yX12_fault ∈ xg := xg_in (List.mem_append_right _ (List.mem_of_getElem? (i := 1619) (by decide +kernel))) rfl
theorem kw_1620 : Cond.code yX12_fault cX12_fault 1 (some .int) ∈ xg := xg_in (List.mem_append_right _ (List.mem_of_getElem? (i := 1620) (by decide +kernel))) rfl
theorem kw_1621 : Cond.methodLink RL 41 yX12_name ∈ xg := xg_in (List.mem_append_right _ (List.mem_of_getElem? (i := 1621) (by decide +kernel))) rfl
theorem kw_1622 : Cond.instanceMethod yX12_name ∈ xg := xg_in (List.mem_append_right _ (List.mem_of_getElem? (i := 1622) (by decide +kernel))) rfl
theorem kw_1623 : Cond.selects RX12 yX12_name yX12_name ∈ xg := xg_in (List.mem_append_right _ (List.mem_of_getElem? (i := 1623) (by decide +kernel))) rfl
theorem kw_1624 : Cond.code yX12_name cX12_name 3 (some .int) ∈ xg := xg_in (List.mem_append_right _ (List.mem_of_getElem? (i := 1624) (by decide +kernel))) rfl
theorem kw_1641 : Cond.methodLink RL 47 yX12_soul ∈ xg := xg_in (List.mem_append_right _ (List.mem_of_getElem? (i := 1641) (by decide +kernel))) rfl
theorem kw_1642 : Cond.instanceMethod yX12_soul ∈ xg := xg_in (List.mem_append_right _ (List.mem_of_getElem? (i := 1642) (by decide +kernel))) rfl
theorem kw_1643 : Cond.selects RX12 yX12_soul yX12_soul ∈ xg := xg_in (List.mem_append_right _ (List.mem_of_getElem? (i := 1643) (by decide +kernel))) rfl
theorem kw_1644 : Cond.code yX12_soul cX12_soul 3 (some .int) ∈ xg := xg_in (List.mem_append_right _ (List.mem_of_getElem? (i := 1644) (by decide +kernel))) rfl
theorem kw_1661 : Cond.methodLink RL 51 yX12_worth ∈ xg := xg_in (List.mem_append_right _ (List.mem_of_getElem? (i := 1661) (by decide +kernel))) rfl
theorem kw_1662 : Cond.instanceMethod yX12_worth ∈ xg := xg_in (List.mem_append_right _ (List.mem_of_getElem? (i := 1662) (by decide +kernel))) rfl
theorem kw_1663 : Cond.selects RX12 yX12_worth yX12_worth ∈ xg := xg_in (List.mem_append_right _ (List.mem_of_getElem? (i := 1663) (by decide +kernel))) rfl
theorem kw_1664 : Cond.code yX12_worth cX12_worth 3 (some .int) ∈ xg := xg_in (List.mem_append_right _ (List.mem_of_getElem? (i := 1664) (by decide +kernel))) rfl
theorem kw_1665 : Cond.methodLink RL 56 yX12_now ∈ xg := xg_in (List.mem_append_right _ (List.mem_of_getElem? (i := 1665) (by decide +kernel))) rfl
theorem kw_1666 : Cond.instanceMethod yX12_now ∈ xg := xg_in (List.mem_append_right _ (List.mem_of_getElem? (i := 1666) (by decide +kernel))) rfl
theorem kw_1667 : Cond.selects RX12 yX12_now yX12_now ∈ xg := xg_in (List.mem_append_right _ (List.mem_of_getElem? (i := 1667) (by decide +kernel))) rfl
theorem kw_1668 : Cond.code yX12_now cX12_now 2 (some .int) ∈ xg := xg_in (List.mem_append_right _ (List.mem_of_getElem? (i := 1668) (by decide +kernel))) rfl
theorem kw_1677 : Cond.methodLink RL 60 yX12_take ∈ xg := xg_in (List.mem_append_right _ (List.mem_of_getElem? (i := 1677) (by decide +kernel))) rfl
theorem kw_1678 : Cond.instanceMethod yX12_take ∈ xg := xg_in (List.mem_append_right _ (List.mem_of_getElem? (i := 1678) (by decide +kernel))) rfl
theorem kw_1679 : Cond.selects RX12 yX12_take yX12_take ∈ xg := xg_in (List.mem_append_right _ (List.mem_of_getElem? (i := 1679) (by decide +kernel))) rfl
theorem kw_1680 : Cond.code yX12_take cX12_take 4 (some .int) ∈ xg := xg_in (List.mem_append_right _ (List.mem_of_getElem? (i := 1680) (by decide +kernel))) rfl
theorem kw_1701 : Cond.methodLink RL 64 yX12_swap ∈ xg := xg_in (List.mem_append_right _ (List.mem_of_getElem? (i := 1701) (by decide +kernel))) rfl
theorem kw_1702 : Cond.instanceMethod yX12_swap ∈ xg := xg_in (List.mem_append_right _ (List.mem_of_getElem? (i := 1702) (by decide +kernel))) rfl
theorem kw_1703 : Cond.selects RX12 yX12_swap yX12_swap ∈ xg := xg_in (List.mem_append_right _ (List.mem_of_getElem? (i := 1703) (by decide +kernel))) rfl
theorem kw_1704 : Cond.code yX12_swap cX12_swap 4 (some .int) ∈ xg := xg_in (List.mem_append_right _ (List.mem_of_getElem? (i := 1704) (by decide +kernel))) rfl
theorem kw_1721 : Cond.methodLink RL 68 yX12_sell ∈ xg := xg_in (List.mem_append_right _ (List.mem_of_getElem? (i := 1721) (by decide +kernel))) rfl
theorem kw_1722 : Cond.instanceMethod yX12_sell ∈ xg := xg_in (List.mem_append_right _ (List.mem_of_getElem? (i := 1722) (by decide +kernel))) rfl
theorem kw_1723 : Cond.selects RX12 yX12_sell yX12_sell ∈ xg := xg_in (List.mem_append_right _ (List.mem_of_getElem? (i := 1723) (by decide +kernel))) rfl
theorem kw_1724 : Cond.code yX12_sell cX12_sell 4 (some .int) ∈ xg := xg_in (List.mem_append_right _ (List.mem_of_getElem? (i := 1724) (by decide +kernel))) rfl
theorem kw_1733 : Cond.methodLink RL 72 yX12_die ∈ xg := xg_in (List.mem_append_right _ (List.mem_of_getElem? (i := 1733) (by decide +kernel))) rfl
theorem kw_1734 : Cond.instanceMethod yX12_die ∈ xg := xg_in (List.mem_append_right _ (List.mem_of_getElem? (i := 1734) (by decide +kernel))) rfl
theorem kw_1735 : Cond.selects RX12 yX12_die yX12_die ∈ xg := xg_in (List.mem_append_right _ (List.mem_of_getElem? (i := 1735) (by decide +kernel))) rfl
theorem kw_1736 : Cond.code yX12_die cX12_die 3 (some .int) ∈ xg := xg_in (List.mem_append_right _ (List.mem_of_getElem? (i := 1736) (by decide +kernel))) rfl
theorem kw_1741 : Cond.methodLink RL 76 yX12_flee ∈ xg := xg_in (List.mem_append_right _ (List.mem_of_getElem? (i := 1741) (by decide +kernel))) rfl
theorem kw_1742 : Cond.instanceMethod yX12_flee ∈ xg := xg_in (List.mem_append_right _ (List.mem_of_getElem? (i := 1742) (by decide +kernel))) rfl
theorem kw_1743 : Cond.selects RX12 yX12_flee yX12_flee ∈ xg := xg_in (List.mem_append_right _ (List.mem_of_getElem? (i := 1743) (by decide +kernel))) rfl
theorem kw_1744 : Cond.code yX12_flee cX12_flee 3 (some .int) ∈ xg := xg_in (List.mem_append_right _ (List.mem_of_getElem? (i := 1744) (by decide +kernel))) rfl
theorem kw_1753 : Cond.methodLink RL 80 yX12_pay ∈ xg := xg_in (List.mem_append_right _ (List.mem_of_getElem? (i := 1753) (by decide +kernel))) rfl
theorem kw_1754 : Cond.instanceMethod yX12_pay ∈ xg := xg_in (List.mem_append_right _ (List.mem_of_getElem? (i := 1754) (by decide +kernel))) rfl
theorem kw_1755 : Cond.selects RX12 yX12_pay yX12_pay ∈ xg := xg_in (List.mem_append_right _ (List.mem_of_getElem? (i := 1755) (by decide +kernel))) rfl
theorem kw_1756 : Cond.code yX12_pay cX12_pay 4 (some .int) ∈ xg := xg_in (List.mem_append_right _ (List.mem_of_getElem? (i := 1756) (by decide +kernel))) rfl
theorem kw_1765 : Cond.methodLink RL 84 yX12_lot ∈ xg := xg_in (List.mem_append_right _ (List.mem_of_getElem? (i := 1765) (by decide +kernel))) rfl
theorem kw_1766 : Cond.instanceMethod yX12_lot ∈ xg := xg_in (List.mem_append_right _ (List.mem_of_getElem? (i := 1766) (by decide +kernel))) rfl
theorem kw_1767 : Cond.selects RX12 yX12_lot yX12_lot ∈ xg := xg_in (List.mem_append_right _ (List.mem_of_getElem? (i := 1767) (by decide +kernel))) rfl
theorem kw_1768 : Cond.code yX12_lot cX12_lot 4 (some .int) ∈ xg := xg_in (List.mem_append_right _ (List.mem_of_getElem? (i := 1768) (by decide +kernel))) rfl
theorem kw_1774 : Cond.methodLink RL 88 yX12_mondays ∈ xg := xg_in (List.mem_append_right _ (List.mem_of_getElem? (i := 1774) (by decide +kernel))) rfl
theorem kw_1775 : Cond.instanceMethod yX12_mondays ∈ xg := xg_in (List.mem_append_right _ (List.mem_of_getElem? (i := 1775) (by decide +kernel))) rfl
theorem kw_1776 : Cond.selects RX12 yX12_mondays yX12_mondays ∈ xg := xg_in (List.mem_append_right _ (List.mem_of_getElem? (i := 1776) (by decide +kernel))) rfl
theorem kw_1777 : Cond.code yX12_mondays cX12_mondays 2 (some .int) ∈ xg := xg_in (List.mem_append_right _ (List.mem_of_getElem? (i := 1777) (by decide +kernel))) rfl
theorem kw_1786 : Cond.methodLink RL 92 yX12_undo ∈ xg := xg_in (List.mem_append_right _ (List.mem_of_getElem? (i := 1786) (by decide +kernel))) rfl
theorem kw_1787 : Cond.instanceMethod yX12_undo ∈ xg := xg_in (List.mem_append_right _ (List.mem_of_getElem? (i := 1787) (by decide +kernel))) rfl
theorem kw_1788 : Cond.selects RX12 yX12_undo yX12_undo ∈ xg := xg_in (List.mem_append_right _ (List.mem_of_getElem? (i := 1788) (by decide +kernel))) rfl
theorem kw_1789 : Cond.code yX12_undo cX12_undo 2 (some .int) ∈ xg := xg_in (List.mem_append_right _ (List.mem_of_getElem? (i := 1789) (by decide +kernel))) rfl
theorem kw_1790 : Cond.methodLink RL 96 yX12_called ∈ xg := xg_in (List.mem_append_right _ (List.mem_of_getElem? (i := 1790) (by decide +kernel))) rfl
theorem kw_1791 : Cond.instanceMethod yX12_called ∈ xg := xg_in (List.mem_append_right _ (List.mem_of_getElem? (i := 1791) (by decide +kernel))) rfl
theorem kw_1792 : Cond.selects RX12 yX12_called yX12_called ∈ xg := xg_in (List.mem_append_right _ (List.mem_of_getElem? (i := 1792) (by decide +kernel))) rfl
theorem kw_1793 : Cond.code yX12_called cX12_called 3 (some .int) ∈ xg := xg_in (List.mem_append_right _ (List.mem_of_getElem? (i := 1793) (by decide +kernel))) rfl
theorem kw_1802 : Cond.methodLink RL 100 yX12_holder ∈ xg := xg_in (List.mem_append_right _ (List.mem_of_getElem? (i := 1802) (by decide +kernel))) rfl
theorem kw_1803 : Cond.instanceMethod yX12_holder ∈ xg := xg_in (List.mem_append_right _ (List.mem_of_getElem? (i := 1803) (by decide +kernel))) rfl
theorem kw_1804 : Cond.selects RX12 yX12_holder yX12_holder ∈ xg := xg_in (List.mem_append_right _ (List.mem_of_getElem? (i := 1804) (by decide +kernel))) rfl
theorem kw_1805 : Cond.code yX12_holder cX12_holder 4 (some .int) ∈ xg := xg_in (List.mem_append_right _ (List.mem_of_getElem? (i := 1805) (by decide +kernel))) rfl
theorem kw_1806 : Cond.methodLink RL 104 yX12_bearers ∈ xg := xg_in (List.mem_append_right _ (List.mem_of_getElem? (i := 1806) (by decide +kernel))) rfl
theorem kw_1807 : Cond.instanceMethod yX12_bearers ∈ xg := xg_in (List.mem_append_right _ (List.mem_of_getElem? (i := 1807) (by decide +kernel))) rfl
theorem kw_1808 : Cond.selects RX12 yX12_bearers yX12_bearers ∈ xg := xg_in (List.mem_append_right _ (List.mem_of_getElem? (i := 1808) (by decide +kernel))) rfl
theorem kw_1809 : Cond.code yX12_bearers cX12_bearers 4 (some .int) ∈ xg := xg_in (List.mem_append_right _ (List.mem_of_getElem? (i := 1809) (by decide +kernel))) rfl
theorem kw_1814 : Cond.methodLink RL 108 yX12_howLong ∈ xg := xg_in (List.mem_append_right _ (List.mem_of_getElem? (i := 1814) (by decide +kernel))) rfl
theorem kw_1815 : Cond.instanceMethod yX12_howLong ∈ xg := xg_in (List.mem_append_right _ (List.mem_of_getElem? (i := 1815) (by decide +kernel))) rfl
theorem kw_1816 : Cond.selects RX12 yX12_howLong yX12_howLong ∈ xg := xg_in (List.mem_append_right _ (List.mem_of_getElem? (i := 1816) (by decide +kernel))) rfl
theorem kw_1817 : Cond.code yX12_howLong cX12_howLong 3 (some .int) ∈ xg := xg_in (List.mem_append_right _ (List.mem_of_getElem? (i := 1817) (by decide +kernel))) rfl
theorem kw_1818 : Cond.methodLink RL 112 yX12_wishes ∈ xg := xg_in (List.mem_append_right _ (List.mem_of_getElem? (i := 1818) (by decide +kernel))) rfl
theorem kw_1819 : Cond.instanceMethod yX12_wishes ∈ xg := xg_in (List.mem_append_right _ (List.mem_of_getElem? (i := 1819) (by decide +kernel))) rfl
theorem kw_1820 : Cond.selects RX12 yX12_wishes yX12_wishes ∈ xg := xg_in (List.mem_append_right _ (List.mem_of_getElem? (i := 1820) (by decide +kernel))) rfl
theorem kw_1821 : Cond.code yX12_wishes cX12_wishes 5 (some .int) ∈ xg := xg_in (List.mem_append_right _ (List.mem_of_getElem? (i := 1821) (by decide +kernel))) rfl
theorem kw_1838 : Cond.methodLink RL 116 yX12_swaps ∈ xg := xg_in (List.mem_append_right _ (List.mem_of_getElem? (i := 1838) (by decide +kernel))) rfl
theorem kw_1839 : Cond.instanceMethod yX12_swaps ∈ xg := xg_in (List.mem_append_right _ (List.mem_of_getElem? (i := 1839) (by decide +kernel))) rfl
theorem kw_1840 : Cond.selects RX12 yX12_swaps yX12_swaps ∈ xg := xg_in (List.mem_append_right _ (List.mem_of_getElem? (i := 1840) (by decide +kernel))) rfl
theorem kw_1841 : Cond.code yX12_swaps cX12_swaps 6 (some .int) ∈ xg := xg_in (List.mem_append_right _ (List.mem_of_getElem? (i := 1841) (by decide +kernel))) rfl
theorem kw_1845 : Cond.methodLink RL 120 yX12_partner ∈ xg := xg_in (List.mem_append_right _ (List.mem_of_getElem? (i := 1845) (by decide +kernel))) rfl
theorem kw_1846 : Cond.instanceMethod yX12_partner ∈ xg := xg_in (List.mem_append_right _ (List.mem_of_getElem? (i := 1846) (by decide +kernel))) rfl
theorem kw_1847 : Cond.selects RX12 yX12_partner yX12_partner ∈ xg := xg_in (List.mem_append_right _ (List.mem_of_getElem? (i := 1847) (by decide +kernel))) rfl
theorem kw_1848 : Cond.code yX12_partner cX12_partner 2 (some .int) ∈ xg := xg_in (List.mem_append_right _ (List.mem_of_getElem? (i := 1848) (by decide +kernel))) rfl
theorem kw_1849 : Cond.methodLink RL 124 yX12_bidder ∈ xg := xg_in (List.mem_append_right _ (List.mem_of_getElem? (i := 1849) (by decide +kernel))) rfl
theorem kw_1850 : Cond.instanceMethod yX12_bidder ∈ xg := xg_in (List.mem_append_right _ (List.mem_of_getElem? (i := 1850) (by decide +kernel))) rfl
theorem kw_1851 : Cond.selects RX12 yX12_bidder yX12_bidder ∈ xg := xg_in (List.mem_append_right _ (List.mem_of_getElem? (i := 1851) (by decide +kernel))) rfl
theorem kw_1852 : Cond.code yX12_bidder cX12_bidder 2 (some .int) ∈ xg := xg_in (List.mem_append_right _ (List.mem_of_getElem? (i := 1852) (by decide +kernel))) rfl
theorem kw_1857 : Cond.methodLink RL 128 yX12_bid ∈ xg := xg_in (List.mem_append_right _ (List.mem_of_getElem? (i := 1857) (by decide +kernel))) rfl
theorem kw_1858 : Cond.instanceMethod yX12_bid ∈ xg := xg_in (List.mem_append_right _ (List.mem_of_getElem? (i := 1858) (by decide +kernel))) rfl
theorem kw_1859 : Cond.selects RX12 yX12_bid yX12_bid ∈ xg := xg_in (List.mem_append_right _ (List.mem_of_getElem? (i := 1859) (by decide +kernel))) rfl
theorem kw_1860 : Cond.code yX12_bid cX12_bid 2 (some .int) ∈ xg := xg_in (List.mem_append_right _ (List.mem_of_getElem? (i := 1860) (by decide +kernel))) rfl
theorem kw_1861 : Cond.methodLink RL 132 yX12_must ∈ xg := xg_in (List.mem_append_right _ (List.mem_of_getElem? (i := 1861) (by decide +kernel))) rfl
theorem kw_1862 : Cond.instanceMethod yX12_must ∈ xg := xg_in (List.mem_append_right _ (List.mem_of_getElem? (i := 1862) (by decide +kernel))) rfl
theorem kw_1863 : Cond.selects RX12 yX12_must yX12_must ∈ xg := xg_in (List.mem_append_right _ (List.mem_of_getElem? (i := 1863) (by decide +kernel))) rfl
theorem kw_1864 : Cond.code yX12_must cX12_must 5 (some .int) ∈ xg := xg_in (List.mem_append_right _ (List.mem_of_getElem? (i := 1864) (by decide +kernel))) rfl
theorem kw_1865 : Cond.methodLink RL 136 yX12_ledger ∈ xg := xg_in (List.mem_append_right _ (List.mem_of_getElem? (i := 1865) (by decide +kernel))) rfl
theorem kw_1866 : Cond.instanceMethod yX12_ledger ∈ xg := xg_in (List.mem_append_right _ (List.mem_of_getElem? (i := 1866) (by decide +kernel))) rfl
theorem kw_1867 : Cond.selects RX12 yX12_ledger yX12_ledger ∈ xg := xg_in (List.mem_append_right _ (List.mem_of_getElem? (i := 1867) (by decide +kernel))) rfl
theorem kw_1868 : Cond.code yX12_ledger cX12_ledger 5 (some .int) ∈ xg := xg_in (List.mem_append_right _ (List.mem_of_getElem? (i := 1868) (by decide +kernel))) rfl
theorem kw_1873 : Cond.methodLink RL 140 yX12_votes ∈ xg := xg_in (List.mem_append_right _ (List.mem_of_getElem? (i := 1873) (by decide +kernel))) rfl
theorem kw_1874 : Cond.instanceMethod yX12_votes ∈ xg := xg_in (List.mem_append_right _ (List.mem_of_getElem? (i := 1874) (by decide +kernel))) rfl
theorem kw_1875 : Cond.selects RX12 yX12_votes yX12_votes ∈ xg := xg_in (List.mem_append_right _ (List.mem_of_getElem? (i := 1875) (by decide +kernel))) rfl
theorem kw_1876 : Cond.code yX12_votes cX12_votes 2 (some .int) ∈ xg := xg_in (List.mem_append_right _ (List.mem_of_getElem? (i := 1876) (by decide +kernel))) rfl
theorem kw_1892 : Cond.methodLink RL 144 yX12_party ∈ xg := xg_in (List.mem_append_right _ (List.mem_of_getElem? (i := 1892) (by decide +kernel))) rfl
theorem kw_1893 : Cond.instanceMethod yX12_party ∈ xg := xg_in (List.mem_append_right _ (List.mem_of_getElem? (i := 1893) (by decide +kernel))) rfl
theorem kw_1894 : Cond.selects RX12 yX12_party yX12_party ∈ xg := xg_in (List.mem_append_right _ (List.mem_of_getElem? (i := 1894) (by decide +kernel))) rfl
theorem kw_1895 : Cond.code yX12_party cX12_party 3 (some .int) ∈ xg := xg_in (List.mem_append_right _ (List.mem_of_getElem? (i := 1895) (by decide +kernel))) rfl
theorem kw_1896 : Cond.methodLink RL 148 yX12_least ∈ xg := xg_in (List.mem_append_right _ (List.mem_of_getElem? (i := 1896) (by decide +kernel))) rfl
theorem kw_1897 : Cond.instanceMethod yX12_least ∈ xg := xg_in (List.mem_append_right _ (List.mem_of_getElem? (i := 1897) (by decide +kernel))) rfl
theorem kw_1898 : Cond.selects RX12 yX12_least yX12_least ∈ xg := xg_in (List.mem_append_right _ (List.mem_of_getElem? (i := 1898) (by decide +kernel))) rfl
theorem kw_1899 : Cond.code yX12_least cX12_least 6 (some .int) ∈ xg := xg_in (List.mem_append_right _ (List.mem_of_getElem? (i := 1899) (by decide +kernel))) rfl
theorem kw_1905 : Cond.methodLink RL 152 yX12_cheapest ∈ xg := xg_in (List.mem_append_right _ (List.mem_of_getElem? (i := 1905) (by decide +kernel))) rfl
theorem kw_1906 : Cond.instanceMethod yX12_cheapest ∈ xg := xg_in (List.mem_append_right _ (List.mem_of_getElem? (i := 1906) (by decide +kernel))) rfl
theorem kw_1907 : Cond.selects RX12 yX12_cheapest yX12_cheapest ∈ xg := xg_in (List.mem_append_right _ (List.mem_of_getElem? (i := 1907) (by decide +kernel))) rfl
theorem kw_1908 : Cond.code yX12_cheapest cX12_cheapest 1 (some .int) ∈ xg := xg_in (List.mem_append_right _ (List.mem_of_getElem? (i := 1908) (by decide +kernel))) rfl
theorem kw_1909 : Cond.methodLink RL 156 yX12_feasts ∈ xg := xg_in (List.mem_append_right _ (List.mem_of_getElem? (i := 1909) (by decide +kernel))) rfl
theorem kw_1910 : Cond.instanceMethod yX12_feasts ∈ xg := xg_in (List.mem_append_right _ (List.mem_of_getElem? (i := 1910) (by decide +kernel))) rfl
theorem kw_1911 : Cond.selects RX12 yX12_feasts yX12_feasts ∈ xg := xg_in (List.mem_append_right _ (List.mem_of_getElem? (i := 1911) (by decide +kernel))) rfl
theorem kw_1912 : Cond.code yX12_feasts cX12_feasts 5 (some .int) ∈ xg := xg_in (List.mem_append_right _ (List.mem_of_getElem? (i := 1912) (by decide +kernel))) rfl
theorem kw_1913 : Cond.methodLink RL 160 yX12_queue ∈ xg := xg_in (List.mem_append_right _ (List.mem_of_getElem? (i := 1913) (by decide +kernel))) rfl
theorem kw_1914 : Cond.instanceMethod yX12_queue ∈ xg := xg_in (List.mem_append_right _ (List.mem_of_getElem? (i := 1914) (by decide +kernel))) rfl
theorem kw_1915 : Cond.selects RX12 yX12_queue yX12_queue ∈ xg := xg_in (List.mem_append_right _ (List.mem_of_getElem? (i := 1915) (by decide +kernel))) rfl
theorem kw_1916 : Cond.code yX12_queue cX12_queue 2 (some .int) ∈ xg := xg_in (List.mem_append_right _ (List.mem_of_getElem? (i := 1916) (by decide +kernel))) rfl
theorem kw_1917 : Cond.methodLink RL 164 yX12_drawn ∈ xg := xg_in (List.mem_append_right _ (List.mem_of_getElem? (i := 1917) (by decide +kernel))) rfl
theorem kw_1918 : Cond.instanceMethod yX12_drawn ∈ xg := xg_in (List.mem_append_right _ (List.mem_of_getElem? (i := 1918) (by decide +kernel))) rfl
theorem kw_1919 : Cond.selects RX12 yX12_drawn yX12_drawn ∈ xg := xg_in (List.mem_append_right _ (List.mem_of_getElem? (i := 1919) (by decide +kernel))) rfl
theorem kw_1920 : Cond.code yX12_drawn cX12_drawn 3 (some .int) ∈ xg := xg_in (List.mem_append_right _ (List.mem_of_getElem? (i := 1920) (by decide +kernel))) rfl
theorem kw_1929 : Cond.methodLink RL 169 yX12_odds ∈ xg := xg_in (List.mem_append_right _ (List.mem_of_getElem? (i := 1929) (by decide +kernel))) rfl
theorem kw_1930 : Cond.instanceMethod yX12_odds ∈ xg := xg_in (List.mem_append_right _ (List.mem_of_getElem? (i := 1930) (by decide +kernel))) rfl
theorem kw_1931 : Cond.selects RX12 yX12_odds yX12_odds ∈ xg := xg_in (List.mem_append_right _ (List.mem_of_getElem? (i := 1931) (by decide +kernel))) rfl
theorem kw_1932 : Cond.code yX12_odds cX12_odds 6 (some .int) ∈ xg := xg_in (List.mem_append_right _ (List.mem_of_getElem? (i := 1932) (by decide +kernel))) rfl
theorem kw_1941 : Cond.methodLink RL 173 yX12_roll ∈ xg := xg_in (List.mem_append_right _ (List.mem_of_getElem? (i := 1941) (by decide +kernel))) rfl
theorem kw_1942 : Cond.instanceMethod yX12_roll ∈ xg := xg_in (List.mem_append_right _ (List.mem_of_getElem? (i := 1942) (by decide +kernel))) rfl
theorem kw_1943 : Cond.selects RX12 yX12_roll yX12_roll ∈ xg := xg_in (List.mem_append_right _ (List.mem_of_getElem? (i := 1943) (by decide +kernel))) rfl
theorem kw_1944 : Cond.code yX12_roll cX12_roll 6 (some .int) ∈ xg := xg_in (List.mem_append_right _ (List.mem_of_getElem? (i := 1944) (by decide +kernel))) rfl
theorem kw_1957 : Cond.methodLink RL 177 yX12_rolled ∈ xg := xg_in (List.mem_append_right _ (List.mem_of_getElem? (i := 1957) (by decide +kernel))) rfl
theorem kw_1958 : Cond.instanceMethod yX12_rolled ∈ xg := xg_in (List.mem_append_right _ (List.mem_of_getElem? (i := 1958) (by decide +kernel))) rfl
theorem kw_1959 : Cond.selects RX12 yX12_rolled yX12_rolled ∈ xg := xg_in (List.mem_append_right _ (List.mem_of_getElem? (i := 1959) (by decide +kernel))) rfl
theorem kw_1960 : Cond.code yX12_rolled cX12_rolled 2 (some .int) ∈ xg := xg_in (List.mem_append_right _ (List.mem_of_getElem? (i := 1960) (by decide +kernel))) rfl
theorem kw_1961 : Cond.methodLink RL 181 yX12_sentence ∈ xg := xg_in (List.mem_append_right _ (List.mem_of_getElem? (i := 1961) (by decide +kernel))) rfl
theorem kw_1962 : Cond.instanceMethod yX12_sentence ∈ xg := xg_in (List.mem_append_right _ (List.mem_of_getElem? (i := 1962) (by decide +kernel))) rfl
theorem kw_1963 : Cond.selects RX12 yX12_sentence yX12_sentence ∈ xg := xg_in (List.mem_append_right _ (List.mem_of_getElem? (i := 1963) (by decide +kernel))) rfl
theorem kw_1964 : Cond.code yX12_sentence cX12_sentence 3 (some .int) ∈ xg := xg_in (List.mem_append_right _ (List.mem_of_getElem? (i := 1964) (by decide +kernel))) rfl
theorem kw_1989 : Cond.methodLink RL 185 yX12_said ∈ xg := xg_in (List.mem_append_right _ (List.mem_of_getElem? (i := 1989) (by decide +kernel))) rfl
theorem kw_1990 : Cond.instanceMethod yX12_said ∈ xg := xg_in (List.mem_append_right _ (List.mem_of_getElem? (i := 1990) (by decide +kernel))) rfl
theorem kw_1991 : Cond.selects RX12 yX12_said yX12_said ∈ xg := xg_in (List.mem_append_right _ (List.mem_of_getElem? (i := 1991) (by decide +kernel))) rfl
theorem kw_1992 : Cond.code yX12_said cX12_said 4 (some .int) ∈ xg := xg_in (List.mem_append_right _ (List.mem_of_getElem? (i := 1992) (by decide +kernel))) rfl
theorem kw_2001 : Cond.methodLink RL 189 yX12_image ∈ xg := xg_in (List.mem_append_right _ (List.mem_of_getElem? (i := 2001) (by decide +kernel))) rfl
theorem kw_2002 : Cond.instanceMethod yX12_image ∈ xg := xg_in (List.mem_append_right _ (List.mem_of_getElem? (i := 2002) (by decide +kernel))) rfl
theorem kw_2003 : Cond.selects RX12 yX12_image yX12_image ∈ xg := xg_in (List.mem_append_right _ (List.mem_of_getElem? (i := 2003) (by decide +kernel))) rfl
theorem kw_2004 : Cond.code yX12_image cX12_image 3 (some .boolean) ∈ xg := xg_in (List.mem_append_right _ (List.mem_of_getElem? (i := 2004) (by decide +kernel))) rfl
theorem kw_2005 : Cond.methodLink RL 193 yX12_restore ∈ xg := xg_in (List.mem_append_right _ (List.mem_of_getElem? (i := 2005) (by decide +kernel))) rfl
theorem kw_2006 : Cond.instanceMethod yX12_restore ∈ xg := xg_in (List.mem_append_right _ (List.mem_of_getElem? (i := 2006) (by decide +kernel))) rfl
theorem kw_2007 : Cond.selects RX12 yX12_restore yX12_restore ∈ xg := xg_in (List.mem_append_right _ (List.mem_of_getElem? (i := 2007) (by decide +kernel))) rfl
theorem kw_2008 : Cond.code yX12_restore cX12_restore 3 (some .boolean) ∈ xg := xg_in (List.mem_append_right _ (List.mem_of_getElem? (i := 2008) (by decide +kernel))) rfl
theorem kw_2009 : Cond.methodLink RL 197 yX12_count ∈ xg := xg_in (List.mem_append_right _ (List.mem_of_getElem? (i := 2009) (by decide +kernel))) rfl
theorem kw_2010 : Cond.instanceMethod yX12_count ∈ xg := xg_in (List.mem_append_right _ (List.mem_of_getElem? (i := 2010) (by decide +kernel))) rfl
theorem kw_2011 : Cond.selects RX12 yX12_count yX12_count ∈ xg := xg_in (List.mem_append_right _ (List.mem_of_getElem? (i := 2011) (by decide +kernel))) rfl
theorem kw_2012 : Cond.code yX12_count cX12_count 2 (some .int) ∈ xg := xg_in (List.mem_append_right _ (List.mem_of_getElem? (i := 2012) (by decide +kernel))) rfl
theorem kw_27 : Cond.methodLink RL 15 yX11_init ∈ xg := xg_in (List.mem_append_right _ (List.mem_of_getElem? (i := 27) (by decide +kernel))) rfl
theorem kw_29 : Cond.code yX11_init cX11_init 2 none ∈ xg := xg_in (List.mem_append_right _ (List.mem_of_getElem? (i := 29) (by decide +kernel))) rfl
theorem kw_542 : Cond.methodLink RL 19 yX11_feed ∈ xg := xg_in (List.mem_append_right _ (List.mem_of_getElem? (i := 542) (by decide +kernel))) rfl
theorem kw_543 : Cond.instanceMethod yX11_feed ∈ xg := xg_in (List.mem_append_right _ (List.mem_of_getElem? (i := 543) (by decide +kernel))) rfl
theorem kw_544 : Cond.selects RX11 yX11_feed yX11_feed ∈ xg := xg_in (List.mem_append_right _ (List.mem_of_getElem? (i := 544) (by decide +kernel))) rfl
theorem kw_545 : Cond.code yX11_feed cX11_feed 6 (some .int) ∈ xg := xg_in (List.mem_append_right _ (List.mem_of_getElem? (i := 545) (by decide +kernel))) rfl
theorem kw_554 : Cond.methodLink RL 24 yX11_end ∈ xg := xg_in (List.mem_append_right _ (List.mem_of_getElem? (i := 554) (by decide +kernel))) rfl
theorem kw_555 : Cond.instanceMethod yX11_end ∈ xg := xg_in (List.mem_append_right _ (List.mem_of_getElem? (i := 555) (by decide +kernel))) rfl
theorem kw_556 : Cond.selects RX11 yX11_end yX11_end ∈ xg := xg_in (List.mem_append_right _ (List.mem_of_getElem? (i := 556) (by decide +kernel))) rfl
theorem kw_557 : Cond.code yX11_end cX11_end 2 (some .boolean) ∈ xg := xg_in (List.mem_append_right _ (List.mem_of_getElem? (i := 557) (by decide +kernel))) rfl
theorem kw_558 : Cond.methodLink RL 29 yX11_town ∈ xg := xg_in (List.mem_append_right _ (List.mem_of_getElem? (i := 558) (by decide +kernel))) rfl
theorem kw_559 : Cond.instanceMethod yX11_town ∈ xg := xg_in (List.mem_append_right _ (List.mem_of_getElem? (i := 559) (by decide +kernel))) rfl
theorem kw_560 : Cond.selects RX11 yX11_town yX11_town ∈ xg := xg_in (List.mem_append_right _ (List.mem_of_getElem? (i := 560) (by decide +kernel))) rfl
theorem kw_561 : Cond.code yX11_town cX11_town 2 (some .int) ∈ xg := xg_in (List.mem_append_right _ (List.mem_of_getElem? (i := 561) (by decide +kernel))) rfl
theorem kw_735 : Cond.methodLink RL 34 yX11_fault ∈ xg := xg_in (List.mem_append_right _ (List.mem_of_getElem? (i := 735) (by decide +kernel))) rfl
theorem kw_736 : Cond.instanceMethod yX11_fault ∈ xg := xg_in (List.mem_append_right _ (List.mem_of_getElem? (i := 736) (by decide +kernel))) rfl
theorem kw_737 : Cond.selects RX11 yX11_fault yX11_fault ∈ xg := xg_in (List.mem_append_right _ (List.mem_of_getElem? (i := 737) (by decide +kernel))) rfl
theorem kw_738 : Cond.code yX11_fault cX11_fault 1 (some .int) ∈ xg := xg_in (List.mem_append_right _ (List.mem_of_getElem? (i := 738) (by decide +kernel))) rfl
theorem kw_739 : Cond.methodLink RL 38 yX11_name ∈ xg := xg_in (List.mem_append_right _ (List.mem_of_getElem? (i := 739) (by decide +kernel))) rfl
theorem kw_740 : Cond.instanceMethod yX11_name ∈ xg := xg_in (List.mem_append_right _ (List.mem_of_getElem? (i := 740) (by decide +kernel))) rfl
theorem kw_741 : Cond.selects RX11 yX11_name yX11_name ∈ xg := xg_in (List.mem_append_right _ (List.mem_of_getElem? (i := 741) (by decide +kernel))) rfl
theorem kw_742 : Cond.code yX11_name cX11_name 3 (some .int) ∈ xg := xg_in (List.mem_append_right _ (List.mem_of_getElem? (i := 742) (by decide +kernel))) rfl
theorem kw_760 : Cond.methodLink RL 48 yX11_worth ∈ xg := xg_in (List.mem_append_right _ (List.mem_of_getElem? (i := 760) (by decide +kernel))) rfl
theorem kw_761 : Cond.instanceMethod yX11_worth ∈ xg := xg_in (List.mem_append_right _ (List.mem_of_getElem? (i := 761) (by decide +kernel))) rfl
theorem kw_762 : Cond.selects RX11 yX11_worth yX11_worth ∈ xg := xg_in (List.mem_append_right _ (List.mem_of_getElem? (i := 762) (by decide +kernel))) rfl
theorem kw_763 : Cond.code yX11_worth cX11_worth 3 (some .int) ∈ xg := xg_in (List.mem_append_right _ (List.mem_of_getElem? (i := 763) (by decide +kernel))) rfl
theorem kw_766 : Cond.methodLink RL 52 yX11_now ∈ xg := xg_in (List.mem_append_right _ (List.mem_of_getElem? (i := 766) (by decide +kernel))) rfl
theorem kw_767 : Cond.instanceMethod yX11_now ∈ xg := xg_in (List.mem_append_right _ (List.mem_of_getElem? (i := 767) (by decide +kernel))) rfl
theorem kw_768 : Cond.selects RX11 yX11_now yX11_now ∈ xg := xg_in (List.mem_append_right _ (List.mem_of_getElem? (i := 768) (by decide +kernel))) rfl
theorem kw_769 : Cond.code yX11_now cX11_now 2 (some .int) ∈ xg := xg_in (List.mem_append_right _ (List.mem_of_getElem? (i := 769) (by decide +kernel))) rfl
theorem kw_777 : Cond.methodLink RL 57 yX11_take ∈ xg := xg_in (List.mem_append_right _ (List.mem_of_getElem? (i := 777) (by decide +kernel))) rfl
theorem kw_778 : Cond.instanceMethod yX11_take ∈ xg := xg_in (List.mem_append_right _ (List.mem_of_getElem? (i := 778) (by decide +kernel))) rfl
theorem kw_779 : Cond.selects RX11 yX11_take yX11_take ∈ xg := xg_in (List.mem_append_right _ (List.mem_of_getElem? (i := 779) (by decide +kernel))) rfl
theorem kw_780 : Cond.code yX11_take cX11_take 3 (some .int) ∈ xg := xg_in (List.mem_append_right _ (List.mem_of_getElem? (i := 780) (by decide +kernel))) rfl
theorem kw_891 : Cond.methodLink RL 61 yX11_swap ∈ xg := xg_in (List.mem_append_right _ (List.mem_of_getElem? (i := 891) (by decide +kernel))) rfl
theorem kw_892 : Cond.instanceMethod yX11_swap ∈ xg := xg_in (List.mem_append_right _ (List.mem_of_getElem? (i := 892) (by decide +kernel))) rfl
theorem kw_893 : Cond.selects RX11 yX11_swap yX11_swap ∈ xg := xg_in (List.mem_append_right _ (List.mem_of_getElem? (i := 893) (by decide +kernel))) rfl
theorem kw_894 : Cond.code yX11_swap cX11_swap 3 (some .int) ∈ xg := xg_in (List.mem_append_right _ (List.mem_of_getElem? (i := 894) (by decide +kernel))) rfl
theorem kw_899 : Cond.methodLink RL 65 yX11_sell ∈ xg := xg_in (List.mem_append_right _ (List.mem_of_getElem? (i := 899) (by decide +kernel))) rfl
theorem kw_900 : Cond.instanceMethod yX11_sell ∈ xg := xg_in (List.mem_append_right _ (List.mem_of_getElem? (i := 900) (by decide +kernel))) rfl
theorem kw_901 : Cond.selects RX11 yX11_sell yX11_sell ∈ xg := xg_in (List.mem_append_right _ (List.mem_of_getElem? (i := 901) (by decide +kernel))) rfl
theorem kw_902 : Cond.code yX11_sell cX11_sell 3 (some .int) ∈ xg := xg_in (List.mem_append_right _ (List.mem_of_getElem? (i := 902) (by decide +kernel))) rfl
theorem kw_903 : Cond.methodLink RL 69 yX11_die ∈ xg := xg_in (List.mem_append_right _ (List.mem_of_getElem? (i := 903) (by decide +kernel))) rfl
theorem kw_904 : Cond.instanceMethod yX11_die ∈ xg := xg_in (List.mem_append_right _ (List.mem_of_getElem? (i := 904) (by decide +kernel))) rfl
theorem kw_905 : Cond.selects RX11 yX11_die yX11_die ∈ xg := xg_in (List.mem_append_right _ (List.mem_of_getElem? (i := 905) (by decide +kernel))) rfl
theorem kw_906 : Cond.code yX11_die cX11_die 3 (some .int) ∈ xg := xg_in (List.mem_append_right _ (List.mem_of_getElem? (i := 906) (by decide +kernel))) rfl
theorem kw_907 : Cond.methodLink RL 73 yX11_flee ∈ xg := xg_in (List.mem_append_right _ (List.mem_of_getElem? (i := 907) (by decide +kernel))) rfl
theorem kw_908 : Cond.instanceMethod yX11_flee ∈ xg := xg_in (List.mem_append_right _ (List.mem_of_getElem? (i := 908) (by decide +kernel))) rfl
theorem kw_909 : Cond.selects RX11 yX11_flee yX11_flee ∈ xg := xg_in (List.mem_append_right _ (List.mem_of_getElem? (i := 909) (by decide +kernel))) rfl
theorem kw_910 : Cond.code yX11_flee cX11_flee 2 (some .int) ∈ xg := xg_in (List.mem_append_right _ (List.mem_of_getElem? (i := 910) (by decide +kernel))) rfl
theorem kw_911 : Cond.methodLink RL 77 yX11_pay ∈ xg := xg_in (List.mem_append_right _ (List.mem_of_getElem? (i := 911) (by decide +kernel))) rfl
theorem kw_912 : Cond.instanceMethod yX11_pay ∈ xg := xg_in (List.mem_append_right _ (List.mem_of_getElem? (i := 912) (by decide +kernel))) rfl
theorem kw_913 : Cond.selects RX11 yX11_pay yX11_pay ∈ xg := xg_in (List.mem_append_right _ (List.mem_of_getElem? (i := 913) (by decide +kernel))) rfl
theorem kw_914 : Cond.code yX11_pay cX11_pay 3 (some .int) ∈ xg := xg_in (List.mem_append_right _ (List.mem_of_getElem? (i := 914) (by decide +kernel))) rfl
theorem kw_915 : Cond.methodLink RL 81 yX11_lot ∈ xg := xg_in (List.mem_append_right _ (List.mem_of_getElem? (i := 915) (by decide +kernel))) rfl
theorem kw_916 : Cond.instanceMethod yX11_lot ∈ xg := xg_in (List.mem_append_right _ (List.mem_of_getElem? (i := 916) (by decide +kernel))) rfl
theorem kw_917 : Cond.selects RX11 yX11_lot yX11_lot ∈ xg := xg_in (List.mem_append_right _ (List.mem_of_getElem? (i := 917) (by decide +kernel))) rfl
theorem kw_918 : Cond.code yX11_lot cX11_lot 3 (some .int) ∈ xg := xg_in (List.mem_append_right _ (List.mem_of_getElem? (i := 918) (by decide +kernel))) rfl
theorem kw_928 : Cond.methodLink RL 85 yX11_mondays ∈ xg := xg_in (List.mem_append_right _ (List.mem_of_getElem? (i := 928) (by decide +kernel))) rfl
theorem kw_929 : Cond.instanceMethod yX11_mondays ∈ xg := xg_in (List.mem_append_right _ (List.mem_of_getElem? (i := 929) (by decide +kernel))) rfl
theorem kw_930 : Cond.selects RX11 yX11_mondays yX11_mondays ∈ xg := xg_in (List.mem_append_right _ (List.mem_of_getElem? (i := 930) (by decide +kernel))) rfl
theorem kw_931 : Cond.code yX11_mondays cX11_mondays 3 (some .int) ∈ xg := xg_in (List.mem_append_right _ (List.mem_of_getElem? (i := 931) (by decide +kernel))) rfl
theorem kw_933 : Cond.methodLink RL 89 yX11_undo ∈ xg := xg_in (List.mem_append_right _ (List.mem_of_getElem? (i := 933) (by decide +kernel))) rfl
theorem kw_934 : Cond.instanceMethod yX11_undo ∈ xg := xg_in (List.mem_append_right _ (List.mem_of_getElem? (i := 934) (by decide +kernel))) rfl
theorem kw_935 : Cond.selects RX11 yX11_undo yX11_undo ∈ xg := xg_in (List.mem_append_right _ (List.mem_of_getElem? (i := 935) (by decide +kernel))) rfl
theorem kw_936 : Cond.code yX11_undo cX11_undo 1 (some .int) ∈ xg := xg_in (List.mem_append_right _ (List.mem_of_getElem? (i := 936) (by decide +kernel))) rfl
theorem kw_941 : Cond.methodLink RL 93 yX11_called ∈ xg := xg_in (List.mem_append_right _ (List.mem_of_getElem? (i := 941) (by decide +kernel))) rfl
theorem kw_942 : Cond.instanceMethod yX11_called ∈ xg := xg_in (List.mem_append_right _ (List.mem_of_getElem? (i := 942) (by decide +kernel))) rfl
theorem kw_943 : Cond.selects RX11 yX11_called yX11_called ∈ xg := xg_in (List.mem_append_right _ (List.mem_of_getElem? (i := 943) (by decide +kernel))) rfl
theorem kw_944 : Cond.code yX11_called cX11_called 3 (some .int) ∈ xg := xg_in (List.mem_append_right _ (List.mem_of_getElem? (i := 944) (by decide +kernel))) rfl
theorem kw_955 : Cond.methodLink RL 97 yX11_holder ∈ xg := xg_in (List.mem_append_right _ (List.mem_of_getElem? (i := 955) (by decide +kernel))) rfl
theorem kw_956 : Cond.instanceMethod yX11_holder ∈ xg := xg_in (List.mem_append_right _ (List.mem_of_getElem? (i := 956) (by decide +kernel))) rfl
theorem kw_957 : Cond.selects RX11 yX11_holder yX11_holder ∈ xg := xg_in (List.mem_append_right _ (List.mem_of_getElem? (i := 957) (by decide +kernel))) rfl
theorem kw_958 : Cond.code yX11_holder cX11_holder 3 (some .int) ∈ xg := xg_in (List.mem_append_right _ (List.mem_of_getElem? (i := 958) (by decide +kernel))) rfl
theorem kw_964 : Cond.methodLink RL 101 yX11_bearers ∈ xg := xg_in (List.mem_append_right _ (List.mem_of_getElem? (i := 964) (by decide +kernel))) rfl
theorem kw_965 : Cond.instanceMethod yX11_bearers ∈ xg := xg_in (List.mem_append_right _ (List.mem_of_getElem? (i := 965) (by decide +kernel))) rfl
theorem kw_966 : Cond.selects RX11 yX11_bearers yX11_bearers ∈ xg := xg_in (List.mem_append_right _ (List.mem_of_getElem? (i := 966) (by decide +kernel))) rfl
theorem kw_967 : Cond.code yX11_bearers cX11_bearers 4 (some .int) ∈ xg := xg_in (List.mem_append_right _ (List.mem_of_getElem? (i := 967) (by decide +kernel))) rfl
theorem kw_972 : Cond.methodLink RL 105 yX11_howLong ∈ xg := xg_in (List.mem_append_right _ (List.mem_of_getElem? (i := 972) (by decide +kernel))) rfl
theorem kw_973 : Cond.instanceMethod yX11_howLong ∈ xg := xg_in (List.mem_append_right _ (List.mem_of_getElem? (i := 973) (by decide +kernel))) rfl
theorem kw_974 : Cond.selects RX11 yX11_howLong yX11_howLong ∈ xg := xg_in (List.mem_append_right _ (List.mem_of_getElem? (i := 974) (by decide +kernel))) rfl
theorem kw_975 : Cond.code yX11_howLong cX11_howLong 3 (some .int) ∈ xg := xg_in (List.mem_append_right _ (List.mem_of_getElem? (i := 975) (by decide +kernel))) rfl
theorem kw_976 : Cond.methodLink RL 109 yX11_wishes ∈ xg := xg_in (List.mem_append_right _ (List.mem_of_getElem? (i := 976) (by decide +kernel))) rfl
theorem kw_977 : Cond.instanceMethod yX11_wishes ∈ xg := xg_in (List.mem_append_right _ (List.mem_of_getElem? (i := 977) (by decide +kernel))) rfl
theorem kw_978 : Cond.selects RX11 yX11_wishes yX11_wishes ∈ xg := xg_in (List.mem_append_right _ (List.mem_of_getElem? (i := 978) (by decide +kernel))) rfl
theorem kw_979 : Cond.code yX11_wishes cX11_wishes 1 (some .int) ∈ xg := xg_in (List.mem_append_right _ (List.mem_of_getElem? (i := 979) (by decide +kernel))) rfl
/-! what a case of the law leaves alone -/
theorem xfr {AD : List Nat} {n : Nat} {wc : va_W} {H0 H H1 : Heap} (is : List Nat) (h1 : wc.map Prod.fst = is.map (fun i => AD.getD i 0)) (hn0 : AD.length = n) (h2 : ∀ i ∈ is, i < n) (hz : H0.size ≤ H.size) (hF : ∀ q : Nat, q < H0.size → q ∉ AD → H[q]? = H0[q]?) (hz1 : H.size ≤ H1.size) (hk : ∀ q : Nat, q < H.size → ¬ va_A wc H.size q → H1[q]? = H[q]?) : H0.size ≤ H1.size ∧ ∀ q : Nat, q < H0.size → q ∉ AD → H1[q]? = H0[q]? := by
  refine ⟨Nat.le_trans hz hz1, fun q hq hn => ?_⟩
  rw [← hF q hq hn]
  refine hk q (by omega) (fun h => ?_)
  rcases h with ⟨k, e, h⟩ | h
  · have h3 : q ∈ wc.map Prod.fst := List.mem_map.mpr ⟨(q, e), List.mem_of_getElem? h, rfl⟩
    rw [h1] at h3
    obtain ⟨i, hi, ei⟩ := List.mem_map.mp h3
    have h4 : i < AD.length := by rw [hn0]; exact h2 i hi
    apply hn
    rw [← ei]
    show (AD[i]?).getD 0 ∈ AD
    rw [List.getElem?_eq_getElem h4]
    exact List.getElem_mem h4
  · omega
