abbrev cL_law : ByteArray := code
abbrev cL_soul : ByteArray := method_3_code
def yL_soul : MethodName := ⟨RL, "soul", "(LNamesAgain;II[J)I"⟩
abbrev cX11_soul : ByteArray := prog_1_method_7_code
def yX11_soul : MethodName := ⟨RX11, "soul", "(II)I"⟩
abbrev cX12_thrown : ByteArray := prog_14_method_1_code
def yX12_thrown : MethodName := ⟨RX12, "thrown", "()I"⟩
theorem kn_1295 : Cond.castable "java/util/NoSuchElementException" "java/util/NoSuchElementException" ∈ xn := xn_in (List.mem_append_right _ (List.mem_of_getElem? (i := 1295) (by decide +kernel))) rfl
theorem kw_0 : Cond.initialized RL ∈ xg := xg_in (List.mem_append_right _ (List.mem_of_getElem? (i := 0) (by decide +kernel))) rfl
theorem kw_1000 : Cond.methodLink RL 116 yX11_swaps ∈ xg := xg_in (List.mem_append_right _ (List.mem_of_getElem? (i := 1000) (by decide +kernel))) rfl
theorem kw_1001 : Cond.instanceMethod yX11_swaps ∈ xg := xg_in (List.mem_append_right _ (List.mem_of_getElem? (i := 1001) (by decide +kernel))) rfl
theorem kw_1002 : Cond.selects RX11 yX11_swaps yX11_swaps ∈ xg := xg_in (List.mem_append_right _ (List.mem_of_getElem? (i := 1002) (by decide +kernel))) rfl
theorem kw_1003 : Cond.code yX11_swaps cX11_swaps 1 (some .int) ∈ xg := xg_in (List.mem_append_right _ (List.mem_of_getElem? (i := 1003) (by decide +kernel))) rfl
theorem kw_1012 : Cond.methodLink RL 120 yX11_partner ∈ xg := xg_in (List.mem_append_right _ (List.mem_of_getElem? (i := 1012) (by decide +kernel))) rfl
theorem kw_1013 : Cond.instanceMethod yX11_partner ∈ xg := xg_in (List.mem_append_right _ (List.mem_of_getElem? (i := 1013) (by decide +kernel))) rfl
theorem kw_1014 : Cond.selects RX11 yX11_partner yX11_partner ∈ xg := xg_in (List.mem_append_right _ (List.mem_of_getElem? (i := 1014) (by decide +kernel))) rfl
theorem kw_1015 : Cond.code yX11_partner cX11_partner 2 (some .int) ∈ xg := xg_in (List.mem_append_right _ (List.mem_of_getElem? (i := 1015) (by decide +kernel))) rfl
theorem kw_1020 : Cond.methodLink RL 124 yX11_bidder ∈ xg := xg_in (List.mem_append_right _ (List.mem_of_getElem? (i := 1020) (by decide +kernel))) rfl
theorem kw_1021 : Cond.instanceMethod yX11_bidder ∈ xg := xg_in (List.mem_append_right _ (List.mem_of_getElem? (i := 1021) (by decide +kernel))) rfl
theorem kw_1022 : Cond.selects RX11 yX11_bidder yX11_bidder ∈ xg := xg_in (List.mem_append_right _ (List.mem_of_getElem? (i := 1022) (by decide +kernel))) rfl
theorem kw_1023 : Cond.code yX11_bidder cX11_bidder 2 (some .int) ∈ xg := xg_in (List.mem_append_right _ (List.mem_of_getElem? (i := 1023) (by decide +kernel))) rfl
theorem kw_1031 : Cond.methodLink RL 128 yX11_bid ∈ xg := xg_in (List.mem_append_right _ (List.mem_of_getElem? (i := 1031) (by decide +kernel))) rfl
theorem kw_1032 : Cond.instanceMethod yX11_bid ∈ xg := xg_in (List.mem_append_right _ (List.mem_of_getElem? (i := 1032) (by decide +kernel))) rfl
theorem kw_1033 : Cond.selects RX11 yX11_bid yX11_bid ∈ xg := xg_in (List.mem_append_right _ (List.mem_of_getElem? (i := 1033) (by decide +kernel))) rfl
theorem kw_1034 : Cond.code yX11_bid cX11_bid 2 (some .int) ∈ xg := xg_in (List.mem_append_right _ (List.mem_of_getElem? (i := 1034) (by decide +kernel))) rfl
theorem kw_1035 : Cond.methodLink RL 132 yX11_must ∈ xg := xg_in (List.mem_append_right _ (List.mem_of_getElem? (i := 1035) (by decide +kernel))) rfl
theorem kw_1036 : Cond.instanceMethod yX11_must ∈ xg := xg_in (List.mem_append_right _ (List.mem_of_getElem? (i := 1036) (by decide +kernel))) rfl
theorem kw_1037 : Cond.selects RX11 yX11_must yX11_must ∈ xg := xg_in (List.mem_append_right _ (List.mem_of_getElem? (i := 1037) (by decide +kernel))) rfl
theorem kw_1038 : Cond.code yX11_must cX11_must 4 (some .int) ∈ xg := xg_in (List.mem_append_right _ (List.mem_of_getElem? (i := 1038) (by decide +kernel))) rfl
theorem kw_1039 : Cond.methodLink RL 136 yX11_ledger ∈ xg := xg_in (List.mem_append_right _ (List.mem_of_getElem? (i := 1039) (by decide +kernel))) rfl
theorem kw_1040 : Cond.instanceMethod yX11_ledger ∈ xg := xg_in (List.mem_append_right _ (List.mem_of_getElem? (i := 1040) (by decide +kernel))) rfl
theorem kw_1041 : Cond.selects RX11 yX11_ledger yX11_ledger ∈ xg := xg_in (List.mem_append_right _ (List.mem_of_getElem? (i := 1041) (by decide +kernel))) rfl
theorem kw_1042 : Cond.code yX11_ledger cX11_ledger 2 (some .int) ∈ xg := xg_in (List.mem_append_right _ (List.mem_of_getElem? (i := 1042) (by decide +kernel))) rfl
theorem kw_1055 : Cond.methodLink RL 140 yX11_votes ∈ xg := xg_in (List.mem_append_right _ (List.mem_of_getElem? (i := 1055) (by decide +kernel))) rfl
theorem kw_1056 : Cond.instanceMethod yX11_votes ∈ xg := xg_in (List.mem_append_right _ (List.mem_of_getElem? (i := 1056) (by decide +kernel))) rfl
theorem kw_1057 : Cond.selects RX11 yX11_votes yX11_votes ∈ xg := xg_in (List.mem_append_right _ (List.mem_of_getElem? (i := 1057) (by decide +kernel))) rfl
theorem kw_1058 : Cond.code yX11_votes cX11_votes 2 (some .int) ∈ xg := xg_in (List.mem_append_right _ (List.mem_of_getElem? (i := 1058) (by decide +kernel))) rfl
theorem kw_1067 : Cond.methodLink RL 144 yX11_party ∈ xg := xg_in (List.mem_append_right _ (List.mem_of_getElem? (i := 1067) (by decide +kernel))) rfl
theorem kw_1068 : Cond.instanceMethod yX11_party ∈ xg := xg_in (List.mem_append_right _ (List.mem_of_getElem? (i := 1068) (by decide +kernel))) rfl
theorem kw_1069 : Cond.selects RX11 yX11_party yX11_party ∈ xg := xg_in (List.mem_append_right _ (List.mem_of_getElem? (i := 1069) (by decide +kernel))) rfl
theorem kw_1070 : Cond.code yX11_party cX11_party 5 (some .int) ∈ xg := xg_in (List.mem_append_right _ (List.mem_of_getElem? (i := 1070) (by decide +kernel))) rfl
theorem kw_1077 : Cond.methodLink RL 148 yX11_least ∈ xg := xg_in (List.mem_append_right _ (List.mem_of_getElem? (i := 1077) (by decide +kernel))) rfl
theorem kw_1078 : Cond.instanceMethod yX11_least ∈ xg := xg_in (List.mem_append_right _ (List.mem_of_getElem? (i := 1078) (by decide +kernel))) rfl
theorem kw_1079 : Cond.selects RX11 yX11_least yX11_least ∈ xg := xg_in (List.mem_append_right _ (List.mem_of_getElem? (i := 1079) (by decide +kernel))) rfl
theorem kw_1080 : Cond.code yX11_least cX11_least 2 (some .int) ∈ xg := xg_in (List.mem_append_right _ (List.mem_of_getElem? (i := 1080) (by decide +kernel))) rfl
theorem kw_1093 : Cond.methodLink RL 152 yX11_cheapest ∈ xg := xg_in (List.mem_append_right _ (List.mem_of_getElem? (i := 1093) (by decide +kernel))) rfl
theorem kw_1094 : Cond.instanceMethod yX11_cheapest ∈ xg := xg_in (List.mem_append_right _ (List.mem_of_getElem? (i := 1094) (by decide +kernel))) rfl
theorem kw_1095 : Cond.selects RX11 yX11_cheapest yX11_cheapest ∈ xg := xg_in (List.mem_append_right _ (List.mem_of_getElem? (i := 1095) (by decide +kernel))) rfl
theorem kw_1096 : Cond.code yX11_cheapest cX11_cheapest 1 (some .int) ∈ xg := xg_in (List.mem_append_right _ (List.mem_of_getElem? (i := 1096) (by decide +kernel))) rfl
theorem kw_1097 : Cond.methodLink RL 156 yX11_feasts ∈ xg := xg_in (List.mem_append_right _ (List.mem_of_getElem? (i := 1097) (by decide +kernel))) rfl
theorem kw_1098 : Cond.instanceMethod yX11_feasts ∈ xg := xg_in (List.mem_append_right _ (List.mem_of_getElem? (i := 1098) (by decide +kernel))) rfl
theorem kw_1099 : Cond.selects RX11 yX11_feasts yX11_feasts ∈ xg := xg_in (List.mem_append_right _ (List.mem_of_getElem? (i := 1099) (by decide +kernel))) rfl
theorem kw_1100 : Cond.code yX11_feasts cX11_feasts 6 (some .int) ∈ xg := xg_in (List.mem_append_right _ (List.mem_of_getElem? (i := 1100) (by decide +kernel))) rfl
theorem kw_1102 : Cond.methodLink RL 160 yX11_queue ∈ xg := xg_in (List.mem_append_right _ (List.mem_of_getElem? (i := 1102) (by decide +kernel))) rfl
theorem kw_1103 : Cond.instanceMethod yX11_queue ∈ xg := xg_in (List.mem_append_right _ (List.mem_of_getElem? (i := 1103) (by decide +kernel))) rfl
theorem kw_1104 : Cond.selects RX11 yX11_queue yX11_queue ∈ xg := xg_in (List.mem_append_right _ (List.mem_of_getElem? (i := 1104) (by decide +kernel))) rfl
theorem kw_1105 : Cond.code yX11_queue cX11_queue 2 (some .int) ∈ xg := xg_in (List.mem_append_right _ (List.mem_of_getElem? (i := 1105) (by decide +kernel))) rfl
theorem kw_1106 : Cond.methodLink RL 164 yX11_drawn ∈ xg := xg_in (List.mem_append_right _ (List.mem_of_getElem? (i := 1106) (by decide +kernel))) rfl
theorem kw_1107 : Cond.instanceMethod yX11_drawn ∈ xg := xg_in (List.mem_append_right _ (List.mem_of_getElem? (i := 1107) (by decide +kernel))) rfl
theorem kw_1108 : Cond.selects RX11 yX11_drawn yX11_drawn ∈ xg := xg_in (List.mem_append_right _ (List.mem_of_getElem? (i := 1108) (by decide +kernel))) rfl
theorem kw_1109 : Cond.code yX11_drawn cX11_drawn 3 (some .int) ∈ xg := xg_in (List.mem_append_right _ (List.mem_of_getElem? (i := 1109) (by decide +kernel))) rfl
theorem kw_1128 : Cond.methodLink RL 168 yX11_odds ∈ xg := xg_in (List.mem_append_right _ (List.mem_of_getElem? (i := 1128) (by decide +kernel))) rfl
theorem kw_1129 : Cond.instanceMethod yX11_odds ∈ xg := xg_in (List.mem_append_right _ (List.mem_of_getElem? (i := 1129) (by decide +kernel))) rfl
theorem kw_1130 : Cond.selects RX11 yX11_odds yX11_odds ∈ xg := xg_in (List.mem_append_right _ (List.mem_of_getElem? (i := 1130) (by decide +kernel))) rfl
theorem kw_1131 : Cond.code yX11_odds cX11_odds 6 (some .int) ∈ xg := xg_in (List.mem_append_right _ (List.mem_of_getElem? (i := 1131) (by decide +kernel))) rfl
theorem kw_1133 : Cond.methodLink RL 173 yX11_roll ∈ xg := xg_in (List.mem_append_right _ (List.mem_of_getElem? (i := 1133) (by decide +kernel))) rfl
theorem kw_1134 : Cond.instanceMethod yX11_roll ∈ xg := xg_in (List.mem_append_right _ (List.mem_of_getElem? (i := 1134) (by decide +kernel))) rfl
theorem kw_1135 : Cond.selects RX11 yX11_roll yX11_roll ∈ xg := xg_in (List.mem_append_right _ (List.mem_of_getElem? (i := 1135) (by decide +kernel))) rfl
theorem kw_1136 : Cond.code yX11_roll cX11_roll 3 (some .int) ∈ xg := xg_in (List.mem_append_right _ (List.mem_of_getElem? (i := 1136) (by decide +kernel))) rfl
theorem kw_1177 : Cond.methodLink RL 177 yX11_rolled ∈ xg := xg_in (List.mem_append_right _ (List.mem_of_getElem? (i := 1177) (by decide +kernel))) rfl
theorem kw_1178 : Cond.instanceMethod yX11_rolled ∈ xg := xg_in (List.mem_append_right _ (List.mem_of_getElem? (i := 1178) (by decide +kernel))) rfl
theorem kw_1179 : Cond.selects RX11 yX11_rolled yX11_rolled ∈ xg := xg_in (List.mem_append_right _ (List.mem_of_getElem? (i := 1179) (by decide +kernel))) rfl
theorem kw_1180 : Cond.code yX11_rolled cX11_rolled 2 (some .int) ∈ xg := xg_in (List.mem_append_right _ (List.mem_of_getElem? (i := 1180) (by decide +kernel))) rfl
theorem kw_1181 : Cond.methodLink RL 181 yX11_sentence ∈ xg := xg_in (List.mem_append_right _ (List.mem_of_getElem? (i := 1181) (by decide +kernel))) rfl
theorem kw_1182 : Cond.instanceMethod yX11_sentence ∈ xg := xg_in (List.mem_append_right _ (List.mem_of_getElem? (i := 1182) (by decide +kernel))) rfl
theorem kw_1183 : Cond.selects RX11 yX11_sentence yX11_sentence ∈ xg := xg_in (List.mem_append_right _ (List.mem_of_getElem? (i := 1183) (by decide +kernel))) rfl
theorem kw_1184 : Cond.code yX11_sentence cX11_sentence 2 (some .int) ∈ xg := xg_in (List.mem_append_right _ (List.mem_of_getElem? (i := 1184) (by decide +kernel))) rfl
theorem kw_1239 : Cond.methodLink RL 185 yX11_said ∈ xg := xg_in (List.mem_append_right _ (List.mem_of_getElem? (i := 1239) (by decide +kernel))) rfl
theorem kw_1240 : Cond.instanceMethod yX11_said ∈ xg := xg_in (List.mem_append_right _ (List.mem_of_getElem? (i := 1240) (by decide +kernel))) rfl
theorem kw_1241 : Cond.selects RX11 yX11_said yX11_said ∈ xg := xg_in (List.mem_append_right _ (List.mem_of_getElem? (i := 1241) (by decide +kernel))) rfl
theorem kw_1242 : Cond.code yX11_said cX11_said 3 (some .int) ∈ xg := xg_in (List.mem_append_right _ (List.mem_of_getElem? (i := 1242) (by decide +kernel))) rfl
theorem kw_1273 : Cond.methodLink RL 189 yX11_image ∈ xg := xg_in (List.mem_append_right _ (List.mem_of_getElem? (i := 1273) (by decide +kernel))) rfl
theorem kw_1274 : Cond.instanceMethod yX11_image ∈ xg := xg_in (List.mem_append_right _ (List.mem_of_getElem? (i := 1274) (by decide +kernel))) rfl
theorem kw_1275 : Cond.selects RX11 yX11_image yX11_image ∈ xg := xg_in (List.mem_append_right _ (List.mem_of_getElem? (i := 1275) (by decide +kernel))) rfl
theorem kw_1276 : Cond.code yX11_image cX11_image 2 (some .boolean) ∈ xg := xg_in (List.mem_append_right _ (List.mem_of_getElem? (i := 1276) (by decide +kernel))) rfl
theorem kw_1277 : Cond.methodLink RL 193 yX11_restore ∈ xg := xg_in (List.mem_append_right _ (List.mem_of_getElem? (i := 1277) (by decide +kernel))) rfl
theorem kw_1278 : Cond.instanceMethod yX11_restore ∈ xg := xg_in (List.mem_append_right _ (List.mem_of_getElem? (i := 1278) (by decide +kernel))) rfl
theorem kw_1279 : Cond.selects RX11 yX11_restore yX11_restore ∈ xg := xg_in (List.mem_append_right _ (List.mem_of_getElem? (i := 1279) (by decide +kernel))) rfl
theorem kw_1280 : Cond.code yX11_restore cX11_restore 2 (some .boolean) ∈ xg := xg_in (List.mem_append_right _ (List.mem_of_getElem? (i := 1280) (by decide +kernel))) rfl
theorem kw_1281 : Cond.methodLink RL 197 yX11_count ∈ xg := xg_in (List.mem_append_right _ (List.mem_of_getElem? (i := 1281) (by decide +kernel))) rfl
theorem kw_1282 : Cond.instanceMethod yX11_count ∈ xg := xg_in (List.mem_append_right _ (List.mem_of_getElem? (i := 1282) (by decide +kernel))) rfl
theorem kw_1283 : Cond.selects RX11 yX11_count yX11_count ∈ xg := xg_in (List.mem_append_right _ (List.mem_of_getElem? (i := 1283) (by decide +kernel))) rfl
theorem kw_1284 : Cond.code yX11_count cX11_count 2 (some .int) ∈ xg := xg_in (List.mem_append_right _ (List.mem_of_getElem? (i := 1284) (by decide +kernel))) rfl
theorem kw_1285 : Cond.methodLink RL 42 yL_soul ∈ xg := xg_in (List.mem_append_right _ (List.mem_of_getElem? (i := 1285) (by decide +kernel))) rfl
theorem kw_1286 : Cond.static yL_soul ∈ xg := xg_in (List.mem_append_right _ (List.mem_of_getElem? (i := 1286) (by decide +kernel))) rfl
theorem kw_1288 : Cond.classLink RL 13 "java/util/NoSuchElementException" ∈ xg := xg_in (List.mem_append_right _ (List.mem_of_getElem? (i := 1288) (by decide +kernel))) rfl
theorem kw_1289 : Cond.methodLink RL 7 yX11_soul ∈ xg := xg_in (List.mem_append_right _ (List.mem_of_getElem? (i := 1289) (by decide +kernel))) rfl
theorem kw_1290 : Cond.instanceMethod yX11_soul ∈ xg := xg_in (List.mem_append_right _ (List.mem_of_getElem? (i := 1290) (by decide +kernel))) rfl
theorem kw_1291 : Cond.selects RX11 yX11_soul yX11_soul ∈ xg := xg_in (List.mem_append_right _ (List.mem_of_getElem? (i := 1291) (by decide +kernel))) rfl
theorem kw_1292 : Cond.code yX11_soul cX11_soul 3 (some .int) ∈ xg := xg_in (List.mem_append_right _ (List.mem_of_getElem? (i := 1292) (by decide +kernel))) rfl
theorem kw_1293 : Cond.classLink RX11 172 "java/util/NoSuchElementException" ∈ xg := xg_in (List.mem_append_right _ (List.mem_of_getElem? (i := 1293) (by decide +kernel))) rfl
theorem kw_1358 : Cond.methodLink RL 48 yX12_thrown ∈ xg := xg_in (List.mem_append_right _ (List.mem_of_getElem? (i := 1358) (by decide +kernel))) rfl
theorem kw_1359 : Cond.instanceMethod yX12_thrown ∈ xg := xg_in (List.mem_append_right _ (List.mem_of_getElem? (i := 1359) (by decide +kernel))) rfl
theorem kw_1360 : Cond.selects RX12 yX12_thrown yX12_thrown ∈ xg := xg_in (List.mem_append_right _ (List.mem_of_getElem? (i := 1360) (by decide +kernel))) rfl
theorem kw_1361 : Cond.code yX12_thrown cX12_thrown 1 (some .int) ∈ xg := xg_in (List.mem_append_right _ (List.mem_of_getElem? (i := 1361) (by decide +kernel))) rfl
theorem kw_1362 : Cond.methodLink RL 23 yX12_feed ∈ xg := xg_in (List.mem_append_right _ (List.mem_of_getElem? (i := 1362) (by decide +kernel))) rfl
theorem kw_1363 : Cond.instanceMethod yX12_feed ∈ xg := xg_in (List.mem_append_right _ (List.mem_of_getElem? (i := 1363) (by decide +kernel))) rfl
theorem kw_1364 : Cond.selects RX12 yX12_feed yX12_feed ∈ xg := xg_in (List.mem_append_right _ (List.mem_of_getElem? (i := 1364) (by decide +kernel))) rfl
theorem kw_1365 : Cond.code yX12_feed cX12_feed 6 (some .int) ∈ xg := xg_in (List.mem_append_right _ (List.mem_of_getElem? (i := 1365) (by decide +kernel))) rfl
theorem kw_1369 : Cond.instantiable RX12 44 ∈ xg := xg_in (List.mem_append_right _ (List.mem_of_getElem? (i := 1369) (by decide +kernel))) rfl
theorem kw_1371 : Cond.methodLink RL 28 yX12_end ∈ xg := xg_in (List.mem_append_right _ (List.mem_of_getElem? (i := 1371) (by decide +kernel))) rfl
theorem kw_1372 : Cond.instanceMethod yX12_end ∈ xg := xg_in (List.mem_append_right _ (List.mem_of_getElem? (i := 1372) (by decide +kernel))) rfl
theorem kw_1373 : Cond.selects RX12 yX12_end yX12_end ∈ xg := xg_in (List.mem_append_right _ (List.mem_of_getElem? (i := 1373) (by decide +kernel))) rfl
theorem kw_1374 : Cond.code yX12_end cX12_end 2 (some .boolean) ∈ xg := xg_in (List.mem_append_right _ (List.mem_of_getElem? (i := 1374) (by decide +kernel))) rfl
theorem kw_1375 : Cond.classLink RL 16 RX12 ∈ xg := xg_in (List.mem_append_right _ (List.mem_of_getElem? (i := 1375) (by decide +kernel))) rfl
theorem kw_1376 : Cond.methodLink RL 18 yX12_init ∈ xg := xg_in (List.mem_append_right _ (List.mem_of_getElem? (i := 1376) (by decide +kernel))) rfl
theorem kw_1377 : Cond.instanceMethod yX12_init ∈ xg := xg_in (List.mem_append_right _ (List.mem_of_getElem? (i := 1377) (by decide +kernel))) rfl
theorem kw_1378 : Cond.code yX12_init cX12_init 1 none ∈ xg := xg_in (List.mem_append_right _ (List.mem_of_getElem? (i := 1378) (by decide +kernel))) rfl
theorem kw_1541 : Cond.methodLink RL 33 yX12_town ∈ xg := xg_in (List.mem_append_right _ (List.mem_of_getElem? (i := 1541) (by decide +kernel))) rfl
theorem kw_1542 : Cond.instanceMethod yX12_town ∈ xg := xg_in (List.mem_append_right _ (List.mem_of_getElem? (i := 1542) (by decide +kernel))) rfl
theorem kw_1543 : Cond.selects RX12 yX12_town yX12_town ∈ xg := xg_in (List.mem_append_right _ (List.mem_of_getElem? (i := 1543) (by decide +kernel))) rfl
theorem kw_1544 : Cond.code yX12_town cX12_town 2 (some .int) ∈ xg := xg_in (List.mem_append_right _ (List.mem_of_getElem? (i := 1544) (by decide +kernel))) rfl
theorem kw_1621 : Cond.methodLink RL 37 yX12_fault ∈ xg := xg_in (List.mem_append_right _ (List.mem_of_getElem? (i := 1621) (by decide +kernel))) rfl
theorem kw_1622 : Cond.instanceMethod yX12_fault ∈ xg := xg_in (List.mem_append_right _ (List.mem_of_getElem? (i := 1622) (by decide +kernel))) rfl
theorem kw_1623 : Cond.selects RX12 yX12_fault yX12_fault ∈ xg := xg_in (List.mem_append_right _ (List.mem_of_getElem? (i := 1623) (by decide +kernel))) rfl
theorem kw_1624 : Cond.code yX12_fault cX12_fault 1 (some .int) ∈ xg := xg_in (List.mem_append_right _ (List.mem_of_getElem? (i := 1624) (by decide +kernel))) rfl
theorem kw_1625 : Cond.methodLink RL 41 yX12_name ∈ xg := xg_in (List.mem_append_right _ (List.mem_of_getElem? (i := 1625) (by decide +kernel))) rfl
theorem kw_1626 : Cond.instanceMethod yX12_name ∈ xg := xg_in (List.mem_append_right _ (List.mem_of_getElem? (i := 1626) (by decide +kernel))) rfl
theorem kw_1627 : Cond.selects RX12 yX12_name yX12_name ∈ xg := xg_in (List.mem_append_right _ (List.mem_of_getElem? (i := 1627) (by decide +kernel))) rfl
theorem kw_1628 : Cond.code yX12_name cX12_name 3 (some .int) ∈ xg := xg_in (List.mem_append_right _ (List.mem_of_getElem? (i := 1628) (by decide +kernel))) rfl
theorem kw_1645 : Cond.methodLink RL 47 yX12_soul ∈ xg := xg_in (List.mem_append_right _ (List.mem_of_getElem? (i := 1645) (by decide +kernel))) rfl
theorem kw_1646 : Cond.instanceMethod yX12_soul ∈ xg := xg_in (List.mem_append_right _ (List.mem_of_getElem? (i := 1646) (by decide +kernel))) rfl
theorem kw_1647 : Cond.selects RX12 yX12_soul yX12_soul ∈ xg := xg_in (List.mem_append_right _ (List.mem_of_getElem? (i := 1647) (by decide +kernel))) rfl
theorem kw_1648 : Cond.code yX12_soul cX12_soul 3 (some .int) ∈ xg := xg_in (List.mem_append_right _ (List.mem_of_getElem? (i := 1648) (by decide +kernel))) rfl
theorem kw_1665 : Cond.methodLink RL 54 yX12_worth ∈ xg := xg_in (List.mem_append_right _ (List.mem_of_getElem? (i := 1665) (by decide +kernel))) rfl
theorem kw_1666 : Cond.instanceMethod yX12_worth ∈ xg := xg_in (List.mem_append_right _ (List.mem_of_getElem? (i := 1666) (by decide +kernel))) rfl
theorem kw_1667 : Cond.selects RX12 yX12_worth yX12_worth ∈ xg := xg_in (List.mem_append_right _ (List.mem_of_getElem? (i := 1667) (by decide +kernel))) rfl
theorem kw_1668 : Cond.code yX12_worth cX12_worth 3 (some .int) ∈ xg := xg_in (List.mem_append_right _ (List.mem_of_getElem? (i := 1668) (by decide +kernel))) rfl
theorem kw_1669 : Cond.methodLink RL 59 yX12_now ∈ xg := xg_in (List.mem_append_right _ (List.mem_of_getElem? (i := 1669) (by decide +kernel))) rfl
theorem kw_1670 : Cond.instanceMethod yX12_now ∈ xg := xg_in (List.mem_append_right _ (List.mem_of_getElem? (i := 1670) (by decide +kernel))) rfl
theorem kw_1671 : Cond.selects RX12 yX12_now yX12_now ∈ xg := xg_in (List.mem_append_right _ (List.mem_of_getElem? (i := 1671) (by decide +kernel))) rfl
theorem kw_1672 : Cond.code yX12_now cX12_now 2 (some .int) ∈ xg := xg_in (List.mem_append_right _ (List.mem_of_getElem? (i := 1672) (by decide +kernel))) rfl
theorem kw_1681 : Cond.methodLink RL 63 yX12_take ∈ xg := xg_in (List.mem_append_right _ (List.mem_of_getElem? (i := 1681) (by decide +kernel))) rfl
theorem kw_1682 : Cond.instanceMethod yX12_take ∈ xg := xg_in (List.mem_append_right _ (List.mem_of_getElem? (i := 1682) (by decide +kernel))) rfl
theorem kw_1683 : Cond.selects RX12 yX12_take yX12_take ∈ xg := xg_in (List.mem_append_right _ (List.mem_of_getElem? (i := 1683) (by decide +kernel))) rfl
theorem kw_1684 : Cond.code yX12_take cX12_take 4 (some .int) ∈ xg := xg_in (List.mem_append_right _ (List.mem_of_getElem? (i := 1684) (by decide +kernel))) rfl
theorem kw_1705 : Cond.methodLink RL 67 yX12_swap ∈ xg := xg_in (List.mem_append_right _ (List.mem_of_getElem? (i := 1705) (by decide +kernel))) rfl
theorem kw_1706 : Cond.instanceMethod yX12_swap ∈ xg := xg_in (List.mem_append_right _ (List.mem_of_getElem? (i := 1706) (by decide +kernel))) rfl
theorem kw_1707 : Cond.selects RX12 yX12_swap yX12_swap ∈ xg := xg_in (List.mem_append_right _ (List.mem_of_getElem? (i := 1707) (by decide +kernel))) rfl
theorem kw_1708 : Cond.code yX12_swap cX12_swap 4 (some .int) ∈ xg := xg_in (List.mem_append_right _ (List.mem_of_getElem? (i := 1708) (by decide +kernel))) rfl
theorem kw_1725 : Cond.methodLink RL 71 yX12_sell ∈ xg := xg_in (List.mem_append_right _ (List.mem_of_getElem? (i := 1725) (by decide +kernel))) rfl
theorem kw_1726 : Cond.instanceMethod yX12_sell ∈ xg := xg_in (List.mem_append_right _ (List.mem_of_getElem? (i := 1726) (by decide +kernel))) rfl
theorem kw_1727 : Cond.selects RX12 yX12_sell yX12_sell ∈ xg := xg_in (List.mem_append_right _ (List.mem_of_getElem? (i := 1727) (by decide +kernel))) rfl
theorem kw_1728 : Cond.code yX12_sell cX12_sell 4 (some .int) ∈ xg := xg_in (List.mem_append_right _ (List.mem_of_getElem? (i := 1728) (by decide +kernel))) rfl
theorem kw_1737 : Cond.methodLink RL 75 yX12_die ∈ xg := xg_in (List.mem_append_right _ (List.mem_of_getElem? (i := 1737) (by decide +kernel))) rfl
theorem kw_1738 : Cond.instanceMethod yX12_die ∈ xg := xg_in (List.mem_append_right _ (List.mem_of_getElem? (i := 1738) (by decide +kernel))) rfl
theorem kw_1739 : Cond.selects RX12 yX12_die yX12_die ∈ xg := xg_in (List.mem_append_right _ (List.mem_of_getElem? (i := 1739) (by decide +kernel))) rfl
theorem kw_1740 : Cond.code yX12_die cX12_die 3 (some .int) ∈ xg := xg_in (List.mem_append_right _ (List.mem_of_getElem? (i := 1740) (by decide +kernel))) rfl
theorem kw_1745 : Cond.methodLink RL 79 yX12_flee ∈ xg := xg_in (List.mem_append_right _ (List.mem_of_getElem? (i := 1745) (by decide +kernel))) rfl
theorem kw_1746 : Cond.instanceMethod yX12_flee ∈ xg := xg_in (List.mem_append_right _ (List.mem_of_getElem? (i := 1746) (by decide +kernel))) rfl
theorem kw_1747 : Cond.selects RX12 yX12_flee yX12_flee ∈ xg := xg_in (List.mem_append_right _ (List.mem_of_getElem? (i := 1747) (by decide +kernel))) rfl
theorem kw_1748 : Cond.code yX12_flee cX12_flee 3 (some .int) ∈ xg := xg_in (List.mem_append_right _ (List.mem_of_getElem? (i := 1748) (by decide +kernel))) rfl
theorem kw_1757 : Cond.methodLink RL 83 yX12_pay ∈ xg := xg_in (List.mem_append_right _ (List.mem_of_getElem? (i := 1757) (by decide +kernel))) rfl
theorem kw_1758 : Cond.instanceMethod yX12_pay ∈ xg := xg_in (List.mem_append_right _ (List.mem_of_getElem? (i := 1758) (by decide +kernel))) rfl
theorem kw_1759 : Cond.selects RX12 yX12_pay yX12_pay ∈ xg := xg_in (List.mem_append_right _ (List.mem_of_getElem? (i := 1759) (by decide +kernel))) rfl
theorem kw_1760 : Cond.code yX12_pay cX12_pay 4 (some .int) ∈ xg := xg_in (List.mem_append_right _ (List.mem_of_getElem? (i := 1760) (by decide +kernel))) rfl
theorem kw_1769 : Cond.methodLink RL 87 yX12_lot ∈ xg := xg_in (List.mem_append_right _ (List.mem_of_getElem? (i := 1769) (by decide +kernel))) rfl
theorem kw_1770 : Cond.instanceMethod yX12_lot ∈ xg := xg_in (List.mem_append_right _ (List.mem_of_getElem? (i := 1770) (by decide +kernel))) rfl
theorem kw_1771 : Cond.selects RX12 yX12_lot yX12_lot ∈ xg := xg_in (List.mem_append_right _ (List.mem_of_getElem? (i := 1771) (by decide +kernel))) rfl
theorem kw_1772 : Cond.code yX12_lot cX12_lot 4 (some .int) ∈ xg := xg_in (List.mem_append_right _ (List.mem_of_getElem? (i := 1772) (by decide +kernel))) rfl
theorem kw_1778 : Cond.methodLink RL 91 yX12_mondays ∈ xg := xg_in (List.mem_append_right _ (List.mem_of_getElem? (i := 1778) (by decide +kernel))) rfl
theorem kw_1779 : Cond.instanceMethod yX12_mondays ∈ xg := xg_in (List.mem_append_right _ (List.mem_of_getElem? (i := 1779) (by decide +kernel))) rfl
theorem kw_1780 : Cond.selects RX12 yX12_mondays yX12_mondays ∈ xg := xg_in (List.mem_append_right _ (List.mem_of_getElem? (i := 1780) (by decide +kernel))) rfl
theorem kw_1781 : Cond.code yX12_mondays cX12_mondays 2 (some .int) ∈ xg := xg_in (List.mem_append_right _ (List.mem_of_getElem? (i := 1781) (by decide +kernel))) rfl
theorem kw_1790 : Cond.methodLink RL 95 yX12_undo ∈ xg := xg_in (List.mem_append_right _ (List.mem_of_getElem? (i := 1790) (by decide +kernel))) rfl
theorem kw_1791 : Cond.instanceMethod yX12_undo ∈ xg := xg_in (List.mem_append_right _ (List.mem_of_getElem? (i := 1791) (by decide +kernel))) rfl
theorem kw_1792 : Cond.selects RX12 yX12_undo yX12_undo ∈ xg := xg_in (List.mem_append_right _ (List.mem_of_getElem? (i := 1792) (by decide +kernel))) rfl
theorem kw_1793 : Cond.code yX12_undo cX12_undo 2 (some .int) ∈ xg := xg_in (List.mem_append_right _ (List.mem_of_getElem? (i := 1793) (by decide +kernel))) rfl
theorem kw_1794 : Cond.methodLink RL 99 yX12_called ∈ xg := xg_in (List.mem_append_right _ (List.mem_of_getElem? (i := 1794) (by decide +kernel))) rfl
theorem kw_1795 : Cond.instanceMethod yX12_called ∈ xg := xg_in (List.mem_append_right _ (List.mem_of_getElem? (i := 1795) (by decide +kernel))) rfl
theorem kw_1796 : Cond.selects RX12 yX12_called yX12_called ∈ xg := xg_in (List.mem_append_right _ (List.mem_of_getElem? (i := 1796) (by decide +kernel))) rfl
theorem kw_1797 : Cond.code yX12_called cX12_called 3 (some .int) ∈ xg := xg_in (List.mem_append_right _ (List.mem_of_getElem? (i := 1797) (by decide +kernel))) rfl
theorem kw_1806 : Cond.methodLink RL 103 yX12_holder ∈ xg := xg_in (List.mem_append_right _ (List.mem_of_getElem? (i := 1806) (by decide +kernel))) rfl
theorem kw_1807 : Cond.instanceMethod yX12_holder ∈ xg := xg_in (List.mem_append_right _ (List.mem_of_getElem? (i := 1807) (by decide +kernel))) rfl
theorem kw_1808 : Cond.selects RX12 yX12_holder yX12_holder ∈ xg := xg_in (List.mem_append_right _ (List.mem_of_getElem? (i := 1808) (by decide +kernel))) rfl
theorem kw_1809 : Cond.code yX12_holder cX12_holder 4 (some .int) ∈ xg := xg_in (List.mem_append_right _ (List.mem_of_getElem? (i := 1809) (by decide +kernel))) rfl
theorem kw_1810 : Cond.methodLink RL 107 yX12_bearers ∈ xg := xg_in (List.mem_append_right _ (List.mem_of_getElem? (i := 1810) (by decide +kernel))) rfl
theorem kw_1811 : Cond.instanceMethod yX12_bearers ∈ xg := xg_in (List.mem_append_right _ (List.mem_of_getElem? (i := 1811) (by decide +kernel))) rfl
theorem kw_1812 : Cond.selects RX12 yX12_bearers yX12_bearers ∈ xg := xg_in (List.mem_append_right _ (List.mem_of_getElem? (i := 1812) (by decide +kernel))) rfl
theorem kw_1813 : Cond.code yX12_bearers cX12_bearers 4 (some .int) ∈ xg := xg_in (List.mem_append_right _ (List.mem_of_getElem? (i := 1813) (by decide +kernel))) rfl
theorem kw_1818 : Cond.methodLink RL 111 yX12_howLong ∈ xg := xg_in (List.mem_append_right _ (List.mem_of_getElem? (i := 1818) (by decide +kernel))) rfl
theorem kw_1819 : Cond.instanceMethod yX12_howLong ∈ xg := xg_in (List.mem_append_right _ (List.mem_of_getElem? (i := 1819) (by decide +kernel))) rfl
theorem kw_1820 : Cond.selects RX12 yX12_howLong yX12_howLong ∈ xg := xg_in (List.mem_append_right _ (List.mem_of_getElem? (i := 1820) (by decide +kernel))) rfl
theorem kw_1821 : Cond.code yX12_howLong cX12_howLong 3 (some .int) ∈ xg := xg_in (List.mem_append_right _ (List.mem_of_getElem? (i := 1821) (by decide +kernel))) rfl
theorem kw_1822 : Cond.methodLink RL 115 yX12_wishes ∈ xg := xg_in (List.mem_append_right _ (List.mem_of_getElem? (i := 1822) (by decide +kernel))) rfl
theorem kw_1823 : Cond.instanceMethod yX12_wishes ∈ xg := xg_in (List.mem_append_right _ (List.mem_of_getElem? (i := 1823) (by decide +kernel))) rfl
theorem kw_1824 : Cond.selects RX12 yX12_wishes yX12_wishes ∈ xg := xg_in (List.mem_append_right _ (List.mem_of_getElem? (i := 1824) (by decide +kernel))) rfl
theorem kw_1825 : Cond.code yX12_wishes cX12_wishes 5 (some .int) ∈ xg := xg_in (List.mem_append_right _ (List.mem_of_getElem? (i := 1825) (by decide +kernel))) rfl
theorem kw_1842 : Cond.methodLink RL 119 yX12_swaps ∈ xg := xg_in (List.mem_append_right _ (List.mem_of_getElem? (i := 1842) (by decide +kernel))) rfl
theorem kw_1843 : Cond.instanceMethod yX12_swaps ∈ xg := xg_in (List.mem_append_right _ (List.mem_of_getElem? (i := 1843) (by decide +kernel))) rfl
theorem kw_1844 : Cond.selects RX12 yX12_swaps yX12_swaps ∈ xg := xg_in (List.mem_append_right _ (List.mem_of_getElem? (i := 1844) (by decide +kernel))) rfl
theorem kw_1845 : Cond.code yX12_swaps cX12_swaps 6 (some .int) ∈ xg := xg_in (List.mem_append_right _ (List.mem_of_getElem? (i := 1845) (by decide +kernel))) rfl
theorem kw_1849 : Cond.methodLink RL 123 yX12_partner ∈ xg := xg_in (List.mem_append_right _ (List.mem_of_getElem? (i := 1849) (by decide +kernel))) rfl
theorem kw_1850 : Cond.instanceMethod yX12_partner ∈ xg := xg_in (List.mem_append_right _ (List.mem_of_getElem? (i := 1850) (by decide +kernel))) rfl
theorem kw_1851 : Cond.selects RX12 yX12_partner yX12_partner ∈ xg := xg_in (List.mem_append_right _ (List.mem_of_getElem? (i := 1851) (by decide +kernel))) rfl
theorem kw_1852 : Cond.code yX12_partner cX12_partner 2 (some .int) ∈ xg := xg_in (List.mem_append_right _ (List.mem_of_getElem? (i := 1852) (by decide +kernel))) rfl
theorem kw_1853 : Cond.methodLink RL 127 yX12_bidder ∈ xg := xg_in (List.mem_append_right _ (List.mem_of_getElem? (i := 1853) (by decide +kernel))) rfl
theorem kw_1854 : Cond.instanceMethod yX12_bidder ∈ xg := xg_in (List.mem_append_right _ (List.mem_of_getElem? (i := 1854) (by decide +kernel))) rfl
theorem kw_1855 : Cond.selects RX12 yX12_bidder yX12_bidder ∈ xg := xg_in (List.mem_append_right _ (List.mem_of_getElem? (i := 1855) (by decide +kernel))) rfl
theorem kw_1856 : Cond.code yX12_bidder cX12_bidder 2 (some .int) ∈ xg := xg_in (List.mem_append_right _ (List.mem_of_getElem? (i := 1856) (by decide +kernel))) rfl
theorem kw_1861 : Cond.methodLink RL 131 yX12_bid ∈ xg := xg_in (List.mem_append_right _ (List.mem_of_getElem? (i := 1861) (by decide +kernel))) rfl
theorem kw_1862 : Cond.instanceMethod yX12_bid ∈ xg := xg_in (List.mem_append_right _ (List.mem_of_getElem? (i := 1862) (by decide +kernel))) rfl
theorem kw_1863 : Cond.selects RX12 yX12_bid yX12_bid ∈ xg := xg_in (List.mem_append_right _ (List.mem_of_getElem? (i := 1863) (by decide +kernel))) rfl
theorem kw_1864 : Cond.code yX12_bid cX12_bid 2 (some .int) ∈ xg := xg_in (List.mem_append_right _ (List.mem_of_getElem? (i := 1864) (by decide +kernel))) rfl
theorem kw_1865 : Cond.methodLink RL 135 yX12_must ∈ xg := xg_in (List.mem_append_right _ (List.mem_of_getElem? (i := 1865) (by decide +kernel))) rfl
theorem kw_1866 : Cond.instanceMethod yX12_must ∈ xg := xg_in (List.mem_append_right _ (List.mem_of_getElem? (i := 1866) (by decide +kernel))) rfl
theorem kw_1867 : Cond.selects RX12 yX12_must yX12_must ∈ xg := xg_in (List.mem_append_right _ (List.mem_of_getElem? (i := 1867) (by decide +kernel))) rfl
theorem kw_1868 : Cond.code yX12_must cX12_must 5 (some .int) ∈ xg := xg_in (List.mem_append_right _ (List.mem_of_getElem? (i := 1868) (by decide +kernel))) rfl
theorem kw_1869 : Cond.methodLink RL 139 yX12_ledger ∈ xg := xg_in (List.mem_append_right _ (List.mem_of_getElem? (i := 1869) (by decide +kernel))) rfl
theorem kw_1870 : Cond.instanceMethod yX12_ledger ∈ xg := xg_in (List.mem_append_right _ (List.mem_of_getElem? (i := 1870) (by decide +kernel))) rfl
theorem kw_1871 : Cond.selects RX12 yX12_ledger yX12_ledger ∈ xg := xg_in (List.mem_append_right _ (List.mem_of_getElem? (i := 1871) (by decide +kernel))) rfl
theorem kw_1872 : Cond.code yX12_ledger cX12_ledger 5 (some .int) ∈ xg := xg_in (List.mem_append_right _ (List.mem_of_getElem? (i := 1872) (by decide +kernel))) rfl
theorem kw_1877 : Cond.methodLink RL 143 yX12_votes ∈ xg := xg_in (List.mem_append_right _ (List.mem_of_getElem? (i := 1877) (by decide +kernel))) rfl
theorem kw_1878 : Cond.instanceMethod yX12_votes ∈ xg := xg_in (List.mem_append_right _ (List.mem_of_getElem? (i := 1878) (by decide +kernel))) rfl
theorem kw_1879 : Cond.selects RX12 yX12_votes yX12_votes ∈ xg := xg_in (List.mem_append_right _ (List.mem_of_getElem? (i := 1879) (by decide +kernel))) rfl
theorem kw_1880 : Cond.code yX12_votes cX12_votes 2 (some .int) ∈ xg := xg_in (List.mem_append_right _ (List.mem_of_getElem? (i := 1880) (by decide +kernel))) rfl
theorem kw_1896 : Cond.methodLink RL 147 yX12_party ∈ xg := xg_in (List.mem_append_right _ (List.mem_of_getElem? (i := 1896) (by decide +kernel))) rfl
theorem kw_1897 : Cond.instanceMethod yX12_party ∈ xg := xg_in (List.mem_append_right _ (List.mem_of_getElem? (i := 1897) (by decide +kernel))) rfl
theorem kw_1898 : Cond.selects RX12 yX12_party yX12_party ∈ xg := xg_in (List.mem_append_right _ (List.mem_of_getElem? (i := 1898) (by decide +kernel))) rfl
theorem kw_1899 : Cond.code yX12_party cX12_party 3 (some .int) ∈ xg := xg_in (List.mem_append_right _ (List.mem_of_getElem? (i := 1899) (by decide +kernel))) rfl
theorem kw_1900 : Cond.methodLink RL 151 yX12_least ∈ xg := xg_in (List.mem_append_right _ (List.mem_of_getElem? (i := 1900) (by decide +kernel))) rfl
theorem kw_1901 : Cond.instanceMethod yX12_least ∈ xg := xg_in (List.mem_append_right _ (List.mem_of_getElem? (i := 1901) (by decide +kernel))) rfl
theorem kw_1902 : Cond.selects RX12 yX12_least yX12_least ∈ xg := xg_in (List.mem_append_right _ (List.mem_of_getElem? (i := 1902) (by decide +kernel))) rfl
theorem kw_1903 : Cond.code yX12_least cX12_least 6 (some .int) ∈ xg := xg_in (List.mem_append_right _ (List.mem_of_getElem? (i := 1903) (by decide +kernel))) rfl
theorem kw_1909 : Cond.methodLink RL 155 yX12_cheapest ∈ xg := xg_in (List.mem_append_right _ (List.mem_of_getElem? (i := 1909) (by decide +kernel))) rfl
theorem kw_1910 : Cond.instanceMethod yX12_cheapest ∈ xg := xg_in (List.mem_append_right _ (List.mem_of_getElem? (i := 1910) (by decide +kernel))) rfl
theorem kw_1911 : Cond.selects RX12 yX12_cheapest yX12_cheapest ∈ xg := xg_in (List.mem_append_right _ (List.mem_of_getElem? (i := 1911) (by decide +kernel))) rfl
theorem kw_1912 : Cond.code yX12_cheapest cX12_cheapest 1 (some .int) ∈ xg := xg_in (List.mem_append_right _ (List.mem_of_getElem? (i := 1912) (by decide +kernel))) rfl
theorem kw_1913 : Cond.methodLink RL 159 yX12_feasts ∈ xg := xg_in (List.mem_append_right _ (List.mem_of_getElem? (i := 1913) (by decide +kernel))) rfl
theorem kw_1914 : Cond.instanceMethod yX12_feasts ∈ xg := xg_in (List.mem_append_right _ (List.mem_of_getElem? (i := 1914) (by decide +kernel))) rfl
theorem kw_1915 : Cond.selects RX12 yX12_feasts yX12_feasts ∈ xg := xg_in (List.mem_append_right _ (List.mem_of_getElem? (i := 1915) (by decide +kernel))) rfl
theorem kw_1916 : Cond.code yX12_feasts cX12_feasts 5 (some .int) ∈ xg := xg_in (List.mem_append_right _ (List.mem_of_getElem? (i := 1916) (by decide +kernel))) rfl
theorem kw_1917 : Cond.methodLink RL 163 yX12_queue ∈ xg := xg_in (List.mem_append_right _ (List.mem_of_getElem? (i := 1917) (by decide +kernel))) rfl
theorem kw_1918 : Cond.instanceMethod yX12_queue ∈ xg := xg_in (List.mem_append_right _ (List.mem_of_getElem? (i := 1918) (by decide +kernel))) rfl
theorem kw_1919 : Cond.selects RX12 yX12_queue yX12_queue ∈ xg := xg_in (List.mem_append_right _ (List.mem_of_getElem? (i := 1919) (by decide +kernel))) rfl
theorem kw_1920 : Cond.code yX12_queue cX12_queue 2 (some .int) ∈ xg := xg_in (List.mem_append_right _ (List.mem_of_getElem? (i := 1920) (by decide +kernel))) rfl
theorem kw_1921 : Cond.methodLink RL 167 yX12_drawn ∈ xg := xg_in (List.mem_append_right _ (List.mem_of_getElem? (i := 1921) (by decide +kernel))) rfl
theorem kw_1922 : Cond.instanceMethod yX12_drawn ∈ xg := xg_in (List.mem_append_right _ (List.mem_of_getElem? (i := 1922) (by decide +kernel))) rfl
theorem kw_1923 : Cond.selects RX12 yX12_drawn yX12_drawn ∈ xg := xg_in (List.mem_append_right _ (List.mem_of_getElem? (i := 1923) (by decide +kernel))) rfl
theorem kw_1924 : Cond.code yX12_drawn cX12_drawn 3 (some .int) ∈ xg := xg_in (List.mem_append_right _ (List.mem_of_getElem? (i := 1924) (by decide +kernel))) rfl
theorem kw_1933 : Cond.methodLink RL 172 yX12_odds ∈ xg := xg_in (List.mem_append_right _ (List.mem_of_getElem? (i := 1933) (by decide +kernel))) rfl
theorem kw_1934 : Cond.instanceMethod yX12_odds ∈ xg := xg_in (List.mem_append_right _ (List.mem_of_getElem? (i := 1934) (by decide +kernel))) rfl
theorem kw_1935 : Cond.selects RX12 yX12_odds yX12_odds ∈ xg := xg_in (List.mem_append_right _ (List.mem_of_getElem? (i := 1935) (by decide +kernel))) rfl
theorem kw_1936 : Cond.code yX12_odds cX12_odds 6 (some .int) ∈ xg := xg_in (List.mem_append_right _ (List.mem_of_getElem? (i := 1936) (by decide +kernel))) rfl
theorem kw_1945 : Cond.methodLink RL 176 yX12_roll ∈ xg := xg_in (List.mem_append_right _ (List.mem_of_getElem? (i := 1945) (by decide +kernel))) rfl
theorem kw_1946 : Cond.instanceMethod yX12_roll ∈ xg := xg_in (List.mem_append_right _ (List.mem_of_getElem? (i := 1946) (by decide +kernel))) rfl
theorem kw_1947 : Cond.selects RX12 yX12_roll yX12_roll ∈ xg := xg_in (List.mem_append_right _ (List.mem_of_getElem? (i := 1947) (by decide +kernel))) rfl
theorem kw_1948 : Cond.code yX12_roll cX12_roll 6 (some .int) ∈ xg := xg_in (List.mem_append_right _ (List.mem_of_getElem? (i := 1948) (by decide +kernel))) rfl
theorem kw_1961 : Cond.methodLink RL 180 yX12_rolled ∈ xg := xg_in (List.mem_append_right _ (List.mem_of_getElem? (i := 1961) (by decide +kernel))) rfl
theorem kw_1962 : Cond.instanceMethod yX12_rolled ∈ xg := xg_in (List.mem_append_right _ (List.mem_of_getElem? (i := 1962) (by decide +kernel))) rfl
theorem kw_1963 : Cond.selects RX12 yX12_rolled yX12_rolled ∈ xg := xg_in (List.mem_append_right _ (List.mem_of_getElem? (i := 1963) (by decide +kernel))) rfl
theorem kw_1964 : Cond.code yX12_rolled cX12_rolled 2 (some .int) ∈ xg := xg_in (List.mem_append_right _ (List.mem_of_getElem? (i := 1964) (by decide +kernel))) rfl
theorem kw_1965 : Cond.methodLink RL 184 yX12_sentence ∈ xg := xg_in (List.mem_append_right _ (List.mem_of_getElem? (i := 1965) (by decide +kernel))) rfl
theorem kw_1966 : Cond.instanceMethod yX12_sentence ∈ xg := xg_in (List.mem_append_right _ (List.mem_of_getElem? (i := 1966) (by decide +kernel))) rfl
theorem kw_1967 : Cond.selects RX12 yX12_sentence yX12_sentence ∈ xg := xg_in (List.mem_append_right _ (List.mem_of_getElem? (i := 1967) (by decide +kernel))) rfl
theorem kw_1968 : Cond.code yX12_sentence cX12_sentence 3 (some .int) ∈ xg := xg_in (List.mem_append_right _ (List.mem_of_getElem? (i := 1968) (by decide +kernel))) rfl
theorem kw_1993 : Cond.methodLink RL 188 yX12_said ∈ xg := xg_in (List.mem_append_right _ (List.mem_of_getElem? (i := 1993) (by decide +kernel))) rfl
theorem kw_1994 : Cond.instanceMethod yX12_said ∈ xg := xg_in (List.mem_append_right _ (List.mem_of_getElem? (i := 1994) (by decide +kernel))) rfl
theorem kw_1995 : Cond.selects RX12 yX12_said yX12_said ∈ xg := xg_in (List.mem_append_right _ (List.mem_of_getElem? (i := 1995) (by decide +kernel))) rfl
theorem kw_1996 : Cond.code yX12_said cX12_said 4 (some .int) ∈ xg := xg_in (List.mem_append_right _ (List.mem_of_getElem? (i := 1996) (by decide +kernel))) rfl
theorem kw_2005 : Cond.methodLink RL 192 yX12_image ∈ xg := xg_in (List.mem_append_right _ (List.mem_of_getElem? (i := 2005) (by decide +kernel))) rfl
theorem kw_2006 : Cond.instanceMethod yX12_image ∈ xg := xg_in (List.mem_append_right _ (List.mem_of_getElem? (i := 2006) (by decide +kernel))) rfl
theorem kw_2007 : Cond.selects RX12 yX12_image yX12_image ∈ xg := xg_in (List.mem_append_right _ (List.mem_of_getElem? (i := 2007) (by decide +kernel))) rfl
theorem kw_2008 : Cond.code yX12_image cX12_image 3 (some .boolean) ∈ xg := xg_in (List.mem_append_right _ (List.mem_of_getElem? (i := 2008) (by decide +kernel))) rfl
theorem kw_2009 : Cond.methodLink RL 196 yX12_restore ∈ xg := xg_in (List.mem_append_right _ (List.mem_of_getElem? (i := 2009) (by decide +kernel))) rfl
theorem kw_2010 : Cond.instanceMethod yX12_restore ∈ xg := xg_in (List.mem_append_right _ (List.mem_of_getElem? (i := 2010) (by decide +kernel))) rfl
theorem kw_2011 : Cond.selects RX12 yX12_restore yX12_restore ∈ xg := xg_in (List.mem_append_right _ (List.mem_of_getElem? (i := 2011) (by decide +kernel))) rfl
theorem kw_2012 : Cond.code yX12_restore cX12_restore 3 (some .boolean) ∈ xg := xg_in (List.mem_append_right _ (List.mem_of_getElem? (i := 2012) (by decide +kernel))) rfl
theorem kw_2013 : Cond.methodLink RL 200 yX12_count ∈ xg := xg_in (List.mem_append_right _ (List.mem_of_getElem? (i := 2013) (by decide +kernel))) rfl
theorem kw_2014 : Cond.instanceMethod yX12_count ∈ xg := xg_in (List.mem_append_right _ (List.mem_of_getElem? (i := 2014) (by decide +kernel))) rfl
theorem kw_2015 : Cond.selects RX12 yX12_count yX12_count ∈ xg := xg_in (List.mem_append_right _ (List.mem_of_getElem? (i := 2015) (by decide +kernel))) rfl
theorem kw_2016 : Cond.code yX12_count cX12_count 2 (some .int) ∈ xg := xg_in (List.mem_append_right _ (List.mem_of_getElem? (i := 2016) (by decide +kernel))) rfl
theorem kw_23 : Cond.initialized "java/util/NoSuchElementException" ∈ xg := xg_in (List.mem_append_right _ (List.mem_of_getElem? (i := 23) (by decide +kernel))) rfl
theorem kw_25 : Cond.classLink RL 8 RX11 ∈ xg := xg_in (List.mem_append_right _ (List.mem_of_getElem? (i := 25) (by decide +kernel))) rfl
theorem kw_26 : Cond.instantiable RX11 15 ∈ xg := xg_in (List.mem_append_right _ (List.mem_of_getElem? (i := 26) (by decide +kernel))) rfl
theorem kw_27 : Cond.methodLink RL 15 yX11_init ∈ xg := xg_in (List.mem_append_right _ (List.mem_of_getElem? (i := 27) (by decide +kernel))) rfl
theorem kw_28 : Cond.instanceMethod yX11_init ∈ xg := xg_in (List.mem_append_right _ (List.mem_of_getElem? (i := 28) (by decide +kernel))) rfl
theorem kw_29 : Cond.code yX11_init cX11_init 2 none ∈ xg := xg_in (List.mem_append_right _ (List.mem_of_getElem? (i := 29) (by decide +kernel))) rfl
theorem kw_542 : Cond.methodLink RL 19 yX11_feed ∈ xg := xg_in (List.mem_append_right _ (List.mem_of_getElem? (i := 542) (by decide +kernel))) rfl
theorem kw_543 : Cond.instanceMethod yX11_feed ∈ xg := xg_in (List.mem_append_right _ (List.mem_of_getElem? (i := 543) (by decide +kernel))) rfl
theorem kw_544 : Cond.selects RX11 yX11_feed yX11_feed ∈ xg := xg_in (List.mem_append_right _ (List.mem_of_getElem? (i := 544) (by decide +kernel))) rfl
theorem kw_545 : Cond.code yX11_feed cX11_feed 6 (some .int) ∈ xg := xg_in (List.mem_append_right _ (List.mem_of_getElem? (i := 545) (by decide +kernel))) rfl
theorem kw_554 : Cond.methodLink RL 24 yX11_end ∈ xg := xg_in (List.mem_append_right _ (List.mem_of_getElem? (i := 554) (by decide +kernel))) rfl
theorem kw_555 : Cond.instanceMethod yX11_end ∈ xg := xg_in (List.mem_append_right _ (List.mem_of_getElem? (i := 555) (by decide +kernel))) rfl
theorem kw_556 : Cond.selects RX11 yX11_end yX11_end ∈ xg := xg_in (List.mem_append_right _ (List.mem_of_getElem? (i := 556) (by decide +kernel))) rfl
theorem kw_557 : Cond.code yX11_end cX11_end 2 (some .boolean) ∈ xg := xg_in (List.mem_append_right _ (List.mem_of_getElem? (i := 557) (by decide +kernel))) rfl
theorem kw_558 : Cond.methodLink RL 29 yX11_town ∈ xg := xg_in (List.mem_append_right _ (List.mem_of_getElem? (i := 558) (by decide +kernel))) rfl
theorem kw_559 : Cond.instanceMethod yX11_town ∈ xg := xg_in (List.mem_append_right _ (List.mem_of_getElem? (i := 559) (by decide +kernel))) rfl
theorem kw_560 : Cond.selects RX11 yX11_town yX11_town ∈ xg := xg_in (List.mem_append_right _ (List.mem_of_getElem? (i := 560) (by decide +kernel))) rfl
theorem kw_561 : Cond.code yX11_town cX11_town 2 (some .int) ∈ xg := xg_in (List.mem_append_right _ (List.mem_of_getElem? (i := 561) (by decide +kernel))) rfl
theorem kw_735 : Cond.methodLink RL 34 yX11_fault ∈ xg := xg_in (List.mem_append_right _ (List.mem_of_getElem? (i := 735) (by decide +kernel))) rfl
theorem kw_736 : Cond.instanceMethod yX11_fault ∈ xg := xg_in (List.mem_append_right _ (List.mem_of_getElem? (i := 736) (by decide +kernel))) rfl
theorem kw_737 : Cond.selects RX11 yX11_fault yX11_fault ∈ xg := xg_in (List.mem_append_right _ (List.mem_of_getElem? (i := 737) (by decide +kernel))) rfl
theorem kw_738 : Cond.code yX11_fault cX11_fault 1 (some .int) ∈ xg := xg_in (List.mem_append_right _ (List.mem_of_getElem? (i := 738) (by decide +kernel))) rfl
theorem kw_739 : Cond.methodLink RL 38 yX11_name ∈ xg := xg_in (List.mem_append_right _ (List.mem_of_getElem? (i := 739) (by decide +kernel))) rfl
theorem kw_740 : Cond.instanceMethod yX11_name ∈ xg := xg_in (List.mem_append_right _ (List.mem_of_getElem? (i := 740) (by decide +kernel))) rfl
theorem kw_741 : Cond.selects RX11 yX11_name yX11_name ∈ xg := xg_in (List.mem_append_right _ (List.mem_of_getElem? (i := 741) (by decide +kernel))) rfl
theorem kw_742 : Cond.code yX11_name cX11_name 3 (some .int) ∈ xg := xg_in (List.mem_append_right _ (List.mem_of_getElem? (i := 742) (by decide +kernel))) rfl
theorem kw_760 : Cond.methodLink RL 51 yX11_worth ∈ xg := xg_in (List.mem_append_right _ (List.mem_of_getElem? (i := 760) (by decide +kernel))) rfl
theorem kw_761 : Cond.instanceMethod yX11_worth ∈ xg := xg_in (List.mem_append_right _ (List.mem_of_getElem? (i := 761) (by decide +kernel))) rfl
theorem kw_762 : Cond.selects RX11 yX11_worth yX11_worth ∈ xg := xg_in (List.mem_append_right _ (List.mem_of_getElem? (i := 762) (by decide +kernel))) rfl
theorem kw_763 : Cond.code yX11_worth cX11_worth 3 (some .int) ∈ xg := xg_in (List.mem_append_right _ (List.mem_of_getElem? (i := 763) (by decide +kernel))) rfl
theorem kw_766 : Cond.methodLink RL 55 yX11_now ∈ xg := xg_in (List.mem_append_right _ (List.mem_of_getElem? (i := 766) (by decide +kernel))) rfl
theorem kw_767 : Cond.instanceMethod yX11_now ∈ xg := xg_in (List.mem_append_right _ (List.mem_of_getElem? (i := 767) (by decide +kernel))) rfl
theorem kw_768 : Cond.selects RX11 yX11_now yX11_now ∈ xg := xg_in (List.mem_append_right _ (List.mem_of_getElem? (i := 768) (by decide +kernel))) rfl
theorem kw_769 : Cond.code yX11_now cX11_now 2 (some .int) ∈ xg := xg_in (List.mem_append_right _ (List.mem_of_getElem? (i := 769) (by decide +kernel))) rfl
theorem kw_777 : Cond.methodLink RL 60 yX11_take ∈ xg := xg_in (List.mem_append_right _ (List.mem_of_getElem? (i := 777) (by decide +kernel))) rfl
theorem kw_778 : Cond.instanceMethod yX11_take ∈ xg := xg_in (List.mem_append_right _ (List.mem_of_getElem? (i := 778) (by decide +kernel))) rfl
theorem kw_779 : Cond.selects RX11 yX11_take yX11_take ∈ xg := xg_in (List.mem_append_right _ (List.mem_of_getElem? (i := 779) (by decide +kernel))) rfl
theorem kw_780 : Cond.code yX11_take cX11_take 3 (some .int) ∈ xg := xg_in (List.mem_append_right _ (List.mem_of_getElem? (i := 780) (by decide +kernel))) rfl
theorem kw_891 : Cond.methodLink RL 64 yX11_swap ∈ xg := xg_in (List.mem_append_right _ (List.mem_of_getElem? (i := 891) (by decide +kernel))) rfl
theorem kw_892 : Cond.instanceMethod yX11_swap ∈ xg := xg_in (List.mem_append_right _ (List.mem_of_getElem? (i := 892) (by decide +kernel))) rfl
theorem kw_893 : Cond.selects RX11 yX11_swap yX11_swap ∈ xg := xg_in (List.mem_append_right _ (List.mem_of_getElem? (i := 893) (by decide +kernel))) rfl
theorem kw_894 : Cond.code yX11_swap cX11_swap 3 (some .int) ∈ xg := xg_in (List.mem_append_right _ (List.mem_of_getElem? (i := 894) (by decide +kernel))) rfl
theorem kw_899 : Cond.methodLink RL 68 yX11_sell ∈ xg := xg_in (List.mem_append_right _ (List.mem_of_getElem? (i := 899) (by decide +kernel))) rfl
theorem kw_900 : Cond.instanceMethod yX11_sell ∈ xg := xg_in (List.mem_append_right _ (List.mem_of_getElem? (i := 900) (by decide +kernel))) rfl
theorem kw_901 : Cond.selects RX11 yX11_sell yX11_sell ∈ xg := xg_in (List.mem_append_right _ (List.mem_of_getElem? (i := 901) (by decide +kernel))) rfl
theorem kw_902 : Cond.code yX11_sell cX11_sell 3 (some .int) ∈ xg := xg_in (List.mem_append_right _ (List.mem_of_getElem? (i := 902) (by decide +kernel))) rfl
theorem kw_903 : Cond.methodLink RL 72 yX11_die ∈ xg := xg_in (List.mem_append_right _ (List.mem_of_getElem? (i := 903) (by decide +kernel))) rfl
theorem kw_904 : Cond.instanceMethod yX11_die ∈ xg := xg_in (List.mem_append_right _ (List.mem_of_getElem? (i := 904) (by decide +kernel))) rfl
theorem kw_905 : Cond.selects RX11 yX11_die yX11_die ∈ xg := xg_in (List.mem_append_right _ (List.mem_of_getElem? (i := 905) (by decide +kernel))) rfl
theorem kw_906 : Cond.code yX11_die cX11_die 3 (some .int) ∈ xg := xg_in (List.mem_append_right _ (List.mem_of_getElem? (i := 906) (by decide +kernel))) rfl
theorem kw_907 : Cond.methodLink RL 76 yX11_flee ∈ xg := xg_in (List.mem_append_right _ (List.mem_of_getElem? (i := 907) (by decide +kernel))) rfl
theorem kw_908 : Cond.instanceMethod yX11_flee ∈ xg := xg_in (List.mem_append_right _ (List.mem_of_getElem? (i := 908) (by decide +kernel))) rfl
theorem kw_909 : Cond.selects RX11 yX11_flee yX11_flee ∈ xg := xg_in (List.mem_append_right _ (List.mem_of_getElem? (i := 909) (by decide +kernel))) rfl
theorem kw_910 : Cond.code yX11_flee cX11_flee 2 (some .int) ∈ xg := xg_in (List.mem_append_right _ (List.mem_of_getElem? (i := 910) (by decide +kernel))) rfl
theorem kw_911 : Cond.methodLink RL 80 yX11_pay ∈ xg := xg_in (List.mem_append_right _ (List.mem_of_getElem? (i := 911) (by decide +kernel))) rfl
theorem kw_912 : Cond.instanceMethod yX11_pay ∈ xg := xg_in (List.mem_append_right _ (List.mem_of_getElem? (i := 912) (by decide +kernel))) rfl
theorem kw_913 : Cond.selects RX11 yX11_pay yX11_pay ∈ xg := xg_in (List.mem_append_right _ (List.mem_of_getElem? (i := 913) (by decide +kernel))) rfl
theorem kw_914 : Cond.code yX11_pay cX11_pay 3 (some .int) ∈ xg := xg_in (List.mem_append_right _ (List.mem_of_getElem? (i := 914) (by decide +kernel))) rfl
theorem kw_915 : Cond.methodLink RL 84 yX11_lot ∈ xg := xg_in (List.mem_append_right _ (List.mem_of_getElem? (i := 915) (by decide +kernel))) rfl
theorem kw_916 : Cond.instanceMethod yX11_lot ∈ xg := xg_in (List.mem_append_right _ (List.mem_of_getElem? (i := 916) (by decide +kernel))) rfl
theorem kw_917 : Cond.selects RX11 yX11_lot yX11_lot ∈ xg := xg_in (List.mem_append_right _ (List.mem_of_getElem? (i := 917) (by decide +kernel))) rfl
theorem kw_918 : Cond.code yX11_lot cX11_lot 3 (some .int) ∈ xg := xg_in (List.mem_append_right _ (List.mem_of_getElem? (i := 918) (by decide +kernel))) rfl
theorem kw_928 : Cond.methodLink RL 88 yX11_mondays ∈ xg := xg_in (List.mem_append_right _ (List.mem_of_getElem? (i := 928) (by decide +kernel))) rfl
theorem kw_929 : Cond.instanceMethod yX11_mondays ∈ xg := xg_in (List.mem_append_right _ (List.mem_of_getElem? (i := 929) (by decide +kernel))) rfl
theorem kw_930 : Cond.selects RX11 yX11_mondays yX11_mondays ∈ xg := xg_in (List.mem_append_right _ (List.mem_of_getElem? (i := 930) (by decide +kernel))) rfl
theorem kw_931 : Cond.code yX11_mondays cX11_mondays 3 (some .int) ∈ xg := xg_in (List.mem_append_right _ (List.mem_of_getElem? (i := 931) (by decide +kernel))) rfl
theorem kw_933 : Cond.methodLink RL 92 yX11_undo ∈ xg := xg_in (List.mem_append_right _ (List.mem_of_getElem? (i := 933) (by decide +kernel))) rfl
theorem kw_934 : Cond.instanceMethod yX11_undo ∈ xg := xg_in (List.mem_append_right _ (List.mem_of_getElem? (i := 934) (by decide +kernel))) rfl
theorem kw_935 : Cond.selects RX11 yX11_undo yX11_undo ∈ xg := xg_in (List.mem_append_right _ (List.mem_of_getElem? (i := 935) (by decide +kernel))) rfl
theorem kw_936 : Cond.code yX11_undo cX11_undo 1 (some .int) ∈ xg := xg_in (List.mem_append_right _ (List.mem_of_getElem? (i := 936) (by decide +kernel))) rfl
theorem kw_941 : Cond.methodLink RL 96 yX11_called ∈ xg := xg_in (List.mem_append_right _ (List.mem_of_getElem? (i := 941) (by decide +kernel))) rfl
theorem kw_942 : Cond.instanceMethod yX11_called ∈ xg := xg_in (List.mem_append_right _ (List.mem_of_getElem? (i := 942) (by decide +kernel))) rfl
theorem kw_943 : Cond.selects RX11 yX11_called yX11_called ∈ xg := xg_in (List.mem_append_right _ (List.mem_of_getElem? (i := 943) (by decide +kernel))) rfl
theorem kw_944 : Cond.code yX11_called cX11_called 3 (some .int) ∈ xg := xg_in (List.mem_append_right _ (List.mem_of_getElem? (i := 944) (by decide +kernel))) rfl
theorem kw_955 : Cond.methodLink RL 100 yX11_holder ∈ xg := xg_in (List.mem_append_right _ (List.mem_of_getElem? (i := 955) (by decide +kernel))) rfl
theorem kw_956 : Cond.instanceMethod yX11_holder ∈ xg := xg_in (List.mem_append_right _ (List.mem_of_getElem? (i := 956) (by decide +kernel))) rfl
theorem kw_957 : Cond.selects RX11 yX11_holder yX11_holder ∈ xg := xg_in (List.mem_append_right _ (List.mem_of_getElem? (i := 957) (by decide +kernel))) rfl
theorem kw_958 : Cond.code yX11_holder cX11_holder 3 (some .int) ∈ xg := xg_in (List.mem_append_right _ (List.mem_of_getElem? (i := 958) (by decide +kernel))) rfl
theorem kw_964 : Cond.methodLink RL 104 yX11_bearers ∈ xg := xg_in (List.mem_append_right _ (List.mem_of_getElem? (i := 964) (by decide +kernel))) rfl
theorem kw_965 : Cond.instanceMethod yX11_bearers ∈ xg := xg_in (List.mem_append_right _ (List.mem_of_getElem? (i := 965) (by decide +kernel))) rfl
theorem kw_966 : Cond.selects RX11 yX11_bearers yX11_bearers ∈ xg := xg_in (List.mem_append_right _ (List.mem_of_getElem? (i := 966) (by decide +kernel))) rfl
theorem kw_967 : Cond.code yX11_bearers cX11_bearers 4 (some .int) ∈ xg := xg_in (List.mem_append_right _ (List.mem_of_getElem? (i := 967) (by decide +kernel))) rfl
theorem kw_972 : Cond.methodLink RL 108 yX11_howLong ∈ xg := xg_in (List.mem_append_right _ (List.mem_of_getElem? (i := 972) (by decide +kernel))) rfl
theorem kw_973 : Cond.instanceMethod yX11_howLong ∈ xg := xg_in (List.mem_append_right _ (List.mem_of_getElem? (i := 973) (by decide +kernel))) rfl
theorem kw_974 : Cond.selects RX11 yX11_howLong yX11_howLong ∈ xg := xg_in (List.mem_append_right _ (List.mem_of_getElem? (i := 974) (by decide +kernel))) rfl
theorem kw_975 : Cond.code yX11_howLong cX11_howLong 3 (some .int) ∈ xg := xg_in (List.mem_append_right _ (List.mem_of_getElem? (i := 975) (by decide +kernel))) rfl
theorem kw_976 : Cond.methodLink RL 112 yX11_wishes ∈ xg := xg_in (List.mem_append_right _ (List.mem_of_getElem? (i := 976) (by decide +kernel))) rfl
theorem kw_977 : Cond.instanceMethod yX11_wishes ∈ xg := xg_in (List.mem_append_right _ (List.mem_of_getElem? (i := 977) (by decide +kernel))) rfl
theorem kw_978 : Cond.selects RX11 yX11_wishes yX11_wishes ∈ xg := xg_in (List.mem_append_right _ (List.mem_of_getElem? (i := 978) (by decide +kernel))) rfl
theorem kw_979 : Cond.code yX11_wishes cX11_wishes 1 (some .int) ∈ xg := xg_in (List.mem_append_right _ (List.mem_of_getElem? (i := 979) (by decide +kernel))) rfl
