set_option maxRecDepth 100000 in
theorem kn_1004 : Cond.methodLinkNest RX11 278 yX10_findSwaps "NamesAgain" ∈ xn := xn_in (List.mem_append_right _ (List.mem_append_right _ (List.mem_append_right _ (List.mem_append_right _ (List.mem_append_right _ (List.mem_append_left _ (List.mem_of_getElem? (i := 44) rfl))))))) rfl
set_option maxRecDepth 100000 in
theorem kn_101 : Cond.fieldLinkNest RX4 39 RX6 "kind" "I" "NamesAgain" ∈ xn := xn_in (List.mem_append_right _ (List.mem_append_left _ (List.mem_of_getElem? (i := 101) rfl))) rfl
set_option maxRecDepth 100000 in
theorem kn_1016 : Cond.methodLinkNest RX11 281 yX10_partnerOf "NamesAgain" ∈ xn := xn_in (List.mem_append_right _ (List.mem_append_right _ (List.mem_append_right _ (List.mem_append_right _ (List.mem_append_right _ (List.mem_append_left _ (List.mem_of_getElem? (i := 56) rfl))))))) rfl
set_option maxRecDepth 100000 in
theorem kn_102 : Cond.fieldLinkNest RX8 34 RX6 "kind" "I" "NamesAgain" ∈ xn := xn_in (List.mem_append_right _ (List.mem_append_left _ (List.mem_of_getElem? (i := 102) rfl))) rfl
set_option maxRecDepth 100000 in
theorem kn_1024 : Cond.methodLinkNest RX11 284 yX3_findBidder "NamesAgain" ∈ xn := xn_in (List.mem_append_right _ (List.mem_append_right _ (List.mem_append_right _ (List.mem_append_right _ (List.mem_append_right _ (List.mem_append_left _ (List.mem_of_getElem? (i := 64) rfl))))))) rfl
set_option maxRecDepth 100000 in
theorem kn_1028 : Cond.methodLinkNest RX3 35 yX7_worthOf "NamesAgain" ∈ xn := xn_in (List.mem_append_right _ (List.mem_append_right _ (List.mem_append_right _ (List.mem_append_right _ (List.mem_append_right _ (List.mem_append_left _ (List.mem_of_getElem? (i := 68) rfl))))))) rfl
set_option maxRecDepth 100000 in
theorem kn_103 : Cond.fieldLinkNest RX5 53 RX6 "kind" "I" "NamesAgain" ∈ xn := xn_in (List.mem_append_right _ (List.mem_append_left _ (List.mem_of_getElem? (i := 103) rfl))) rfl
set_option maxRecDepth 100000 in
theorem kn_1047 : Cond.methodLinkNest RX11 371 yX6_byteAt "NamesAgain" ∈ xn := xn_in (List.mem_append_right _ (List.mem_append_right _ (List.mem_append_right _ (List.mem_append_right _ (List.mem_append_right _ (List.mem_append_left _ (List.mem_of_getElem? (i := 87) rfl))))))) rfl
set_option maxRecDepth 100000 in
theorem kn_1059 : Cond.methodLinkNest RX11 299 yX2_hasVotes "NamesAgain" ∈ xn := xn_in (List.mem_append_right _ (List.mem_append_right _ (List.mem_append_right _ (List.mem_append_right _ (List.mem_append_right _ (List.mem_append_left _ (List.mem_of_getElem? (i := 99) rfl))))))) rfl
set_option maxRecDepth 100000 in
theorem kn_106 : Cond.fieldLinkNest RX4 56 RX6 "word" "J" "NamesAgain" ∈ xn := xn_in (List.mem_append_right _ (List.mem_append_left _ (List.mem_of_getElem? (i := 106) rfl))) rfl
set_option maxRecDepth 100000 in
theorem kn_107 : Cond.fieldLinkNest RX8 102 RX6 "word" "J" "NamesAgain" ∈ xn := xn_in (List.mem_append_right _ (List.mem_append_left _ (List.mem_of_getElem? (i := 107) rfl))) rfl
set_option maxRecDepth 100000 in
theorem kn_1081 : Cond.methodLinkNest RX11 307 yX2_doesWait "NamesAgain" ∈ xn := xn_in (List.mem_append_right _ (List.mem_append_right _ (List.mem_append_right _ (List.mem_append_right _ (List.mem_append_right _ (List.mem_append_left _ (List.mem_of_getElem? (i := 121) rfl))))))) rfl
set_option maxRecDepth 100000 in
theorem kn_1082 : Cond.methodLinkNest RX11 310 yX3_findLeast "NamesAgain" ∈ xn := xn_in (List.mem_append_right _ (List.mem_append_right _ (List.mem_append_right _ (List.mem_append_right _ (List.mem_append_right _ (List.mem_append_left _ (List.mem_of_getElem? (i := 122) rfl))))))) rfl
set_option maxRecDepth 100000 in
theorem kn_109 : Cond.fieldLinkNest RX5 114 RX6 "word" "J" "NamesAgain" ∈ xn := xn_in (List.mem_append_right _ (List.mem_append_left _ (List.mem_of_getElem? (i := 109) rfl))) rfl
set_option maxRecDepth 100000 in
theorem kn_1090 : Cond.methodLinkNest RX3 64 yX2_isSour "NamesAgain" ∈ xn := xn_in (List.mem_append_right _ (List.mem_append_right _ (List.mem_append_right _ (List.mem_append_right _ (List.mem_append_right _ (List.mem_append_left _ (List.mem_of_getElem? (i := 130) rfl))))))) rfl
set_option maxRecDepth 100000 in
theorem kn_1091 : Cond.methodLinkNest RX3 68 yX2_cost "NamesAgain" ∈ xn := xn_in (List.mem_append_right _ (List.mem_append_right _ (List.mem_append_right _ (List.mem_append_right _ (List.mem_append_right _ (List.mem_append_left _ (List.mem_of_getElem? (i := 131) rfl))))))) rfl
set_option maxRecDepth 100000 in
theorem kn_1092 : Cond.methodLinkNest RX3 72 yX2_hasChanged "NamesAgain" ∈ xn := xn_in (List.mem_append_right _ (List.mem_append_right _ (List.mem_append_right _ (List.mem_append_right _ (List.mem_append_right _ (List.mem_append_left _ (List.mem_of_getElem? (i := 132) rfl))))))) rfl
set_option maxRecDepth 100000 in
theorem kn_1101 : Cond.methodLinkNest RX11 316 yX7_isFeast "NamesAgain" ∈ xn := xn_in (List.mem_append_right _ (List.mem_append_right _ (List.mem_append_right _ (List.mem_append_right _ (List.mem_append_right _ (List.mem_append_left _ (List.mem_of_getElem? (i := 141) rfl))))))) rfl
set_option maxRecDepth 100000 in
theorem kn_1110 : Cond.methodLinkNest RX11 322 yX2_liveDrawn "NamesAgain" ∈ xn := xn_in (List.mem_append_right _ (List.mem_append_right _ (List.mem_append_right _ (List.mem_append_right _ (List.mem_append_right _ (List.mem_append_left _ (List.mem_of_getElem? (i := 150) rfl))))))) rfl
set_option maxRecDepth 100000 in
theorem kn_112 : Cond.fieldLinkNest RX5 130 RX6 "sign" "I" "NamesAgain" ∈ xn := xn_in (List.mem_append_right _ (List.mem_append_left _ (List.mem_of_getElem? (i := 112) rfl))) rfl
set_option maxRecDepth 100000 in
theorem kn_113 : Cond.fieldLinkNest RX4 76 RX6 "got" "I" "NamesAgain" ∈ xn := xn_in (List.mem_append_right _ (List.mem_append_left _ (List.mem_of_getElem? (i := 113) rfl))) rfl
set_option maxRecDepth 100000 in
theorem kn_1132 : Cond.methodLinkNest RX11 325 yX2_copyFrom "NamesAgain" ∈ xn := xn_in (List.mem_append_right _ (List.mem_append_right _ (List.mem_append_right _ (List.mem_append_right _ (List.mem_append_right _ (List.mem_append_left _ (List.mem_of_getElem? (i := 172) rfl))))))) rfl
set_option maxRecDepth 100000 in
theorem kn_1137 : Cond.methodLinkNest RX11 327 yX4_read "NamesAgain" ∈ xn := xn_in (List.mem_append_right _ (List.mem_append_right _ (List.mem_append_right _ (List.mem_append_right _ (List.mem_append_right _ (List.mem_append_left _ (List.mem_of_getElem? (i := 177) rfl))))))) rfl
set_option maxRecDepth 100000 in
theorem kn_114 : Cond.fieldLinkNest RX8 113 RX6 "got" "I" "NamesAgain" ∈ xn := xn_in (List.mem_append_right _ (List.mem_append_left _ (List.mem_of_getElem? (i := 114) rfl))) rfl
set_option maxRecDepth 100000 in
theorem kn_1141 : Cond.methodLinkNest RX4 33 yX6_startText "NamesAgain" ∈ xn := xn_in (List.mem_append_right _ (List.mem_append_right _ (List.mem_append_right _ (List.mem_append_right _ (List.mem_append_right _ (List.mem_append_left _ (List.mem_of_getElem? (i := 181) rfl))))))) rfl
set_option maxRecDepth 100000 in
theorem kn_1147 : Cond.methodLinkNest RX4 52 yX6_isWord "NamesAgain" ∈ xn := xn_in (List.mem_append_right _ (List.mem_append_right _ (List.mem_append_right _ (List.mem_append_right _ (List.mem_append_right _ (List.mem_append_left _ (List.mem_of_getElem? (i := 187) rfl))))))) rfl
set_option maxRecDepth 100000 in
theorem kn_1148 : Cond.methodLinkNest RX4 60 yX7_findSoul "NamesAgain" ∈ xn := xn_in (List.mem_append_right _ (List.mem_append_right _ (List.mem_append_right _ (List.mem_append_right _ (List.mem_append_right _ (List.mem_append_left _ (List.mem_of_getElem? (i := 188) rfl))))))) rfl
set_option maxRecDepth 100000 in
theorem kn_1149 : Cond.methodLinkNest RX4 66 yX6_passKnown "NamesAgain" ∈ xn := xn_in (List.mem_append_right _ (List.mem_append_right _ (List.mem_append_right _ (List.mem_append_right _ (List.mem_append_right _ (List.mem_append_left _ (List.mem_of_getElem? (i := 189) rfl))))))) rfl
set_option maxRecDepth 100000 in
theorem kn_115 : Cond.fieldLinkNest RX5 127 RX6 "got" "I" "NamesAgain" ∈ xn := xn_in (List.mem_append_right _ (List.mem_append_left _ (List.mem_of_getElem? (i := 115) rfl))) rfl
set_option maxRecDepth 100000 in
theorem kn_1150 : Cond.methodLinkNest RX4 70 yX6_refuse "NamesAgain" ∈ xn := xn_in (List.mem_append_right _ (List.mem_append_right _ (List.mem_append_right _ (List.mem_append_right _ (List.mem_append_right _ (List.mem_append_left _ (List.mem_of_getElem? (i := 190) rfl))))))) rfl
set_option maxRecDepth 100000 in
theorem kn_1151 : Cond.methodLinkNest RX4 73 yX6_advance "NamesAgain" ∈ xn := xn_in (List.mem_append_right _ (List.mem_append_right _ (List.mem_append_right _ (List.mem_append_right _ (List.mem_append_right _ (List.mem_append_left _ (List.mem_of_getElem? (i := 191) rfl))))))) rfl
set_option maxRecDepth 100000 in
theorem kn_1156 : Cond.methodLinkNest RX4 82 yX6_passNumber "NamesAgain" ∈ xn := xn_in (List.mem_append_right _ (List.mem_append_right _ (List.mem_append_right _ (List.mem_append_right _ (List.mem_append_right _ (List.mem_append_left _ (List.mem_of_getElem? (i := 196) rfl))))))) rfl
set_option maxRecDepth 100000 in
theorem kn_1162 : Cond.methodLinkNest RX4 91 yX6_pass "NamesAgain" ∈ xn := xn_in (List.mem_append_right _ (List.mem_append_right _ (List.mem_append_right _ (List.mem_append_right _ (List.mem_append_right _ (List.mem_append_left _ (List.mem_of_getElem? (i := 202) rfl))))))) rfl
set_option maxRecDepth 100000 in
theorem kn_1163 : Cond.methodLinkNest RX4 94 yX7_findName "NamesAgain" ∈ xn := xn_in (List.mem_append_right _ (List.mem_append_right _ (List.mem_append_right _ (List.mem_append_right _ (List.mem_append_right _ (List.mem_append_left _ (List.mem_of_getElem? (i := 203) rfl))))))) rfl
set_option maxRecDepth 100000 in
theorem kn_117 : Cond.fieldLinkNest RX11 119 RX6 "faultKind" "I" "NamesAgain" ∈ xn := xn_in (List.mem_append_right _ (List.mem_append_left _ (List.mem_of_getElem? (i := 117) rfl))) rfl
set_option maxRecDepth 100000 in
theorem kn_1170 : Cond.methodLinkNest RX4 46 yX6_passSign "NamesAgain" ∈ xn := xn_in (List.mem_append_right _ (List.mem_append_right _ (List.mem_append_right _ (List.mem_append_right _ (List.mem_append_right _ (List.mem_append_left _ (List.mem_of_getElem? (i := 210) rfl))))))) rfl
set_option maxRecDepth 100000 in
theorem kn_1171 : Cond.methodLinkNest RX11 328 yX4_judge "NamesAgain" ∈ xn := xn_in (List.mem_append_right _ (List.mem_append_right _ (List.mem_append_right _ (List.mem_append_right _ (List.mem_append_right _ (List.mem_append_left _ (List.mem_of_getElem? (i := 211) rfl))))))) rfl
set_option maxRecDepth 100000 in
theorem kn_1175 : Cond.methodLinkNest RX4 119 yX2_whyNot "NamesAgain" ∈ xn := xn_in (List.mem_append_right _ (List.mem_append_right _ (List.mem_append_right _ (List.mem_append_right _ (List.mem_append_right _ (List.mem_append_left _ (List.mem_of_getElem? (i := 215) rfl))))))) rfl
set_option maxRecDepth 100000 in
theorem kn_1176 : Cond.methodLinkNest RX4 125 yX2_act "NamesAgain" ∈ xn := xn_in (List.mem_append_right _ (List.mem_append_right _ (List.mem_append_right _ (List.mem_append_right _ (List.mem_append_right _ (List.mem_append_left _ (List.mem_of_getElem? (i := 216) rfl))))))) rfl
set_option maxRecDepth 100000 in
theorem kn_1185 : Cond.methodLinkNest RX11 348 yX5_read "NamesAgain" ∈ xn := xn_in (List.mem_append_right _ (List.mem_append_right _ (List.mem_append_right _ (List.mem_append_right _ (List.mem_append_right _ (List.mem_append_left _ (List.mem_of_getElem? (i := 225) rfl))))))) rfl
set_option maxRecDepth 100000 in
theorem kn_1189 : Cond.methodLinkNest RX5 43 yX6_startText "NamesAgain" ∈ xn := xn_in (List.mem_append_right _ (List.mem_append_right _ (List.mem_append_right _ (List.mem_append_right _ (List.mem_append_right _ (List.mem_append_left _ (List.mem_of_getElem? (i := 229) rfl))))))) rfl
set_option maxRecDepth 100000 in
theorem kn_119 : Cond.fieldLinkNest RX11 125 RX6 "faultPlace" "I" "NamesAgain" ∈ xn := xn_in (List.mem_append_right _ (List.mem_append_left _ (List.mem_of_getElem? (i := 119) rfl))) rfl
set_option maxRecDepth 100000 in
theorem kn_1207 : Cond.methodLinkNest RX5 64 yX6_isWord "NamesAgain" ∈ xn := xn_in (List.mem_append_right _ (List.mem_append_right _ (List.mem_append_right _ (List.mem_append_right _ (List.mem_append_right _ (List.mem_append_right _ (List.mem_append_left _ (List.mem_of_getElem? (i := 7) rfl)))))))) rfl
set_option maxRecDepth 100000 in
theorem kn_1217 : Cond.methodLinkNest RX5 86 yX6_isSign "NamesAgain" ∈ xn := xn_in (List.mem_append_right _ (List.mem_append_right _ (List.mem_append_right _ (List.mem_append_right _ (List.mem_append_right _ (List.mem_append_right _ (List.mem_append_left _ (List.mem_of_getElem? (i := 17) rfl)))))))) rfl
set_option maxRecDepth 100000 in
theorem kn_1218 : Cond.methodLinkNest RX5 56 yX6_refuse "NamesAgain" ∈ xn := xn_in (List.mem_append_right _ (List.mem_append_right _ (List.mem_append_right _ (List.mem_append_right _ (List.mem_append_right _ (List.mem_append_right _ (List.mem_append_left _ (List.mem_of_getElem? (i := 18) rfl)))))))) rfl
set_option maxRecDepth 100000 in
theorem kn_1219 : Cond.methodLinkNest RX5 68 yX6_advance "NamesAgain" ∈ xn := xn_in (List.mem_append_right _ (List.mem_append_right _ (List.mem_append_right _ (List.mem_append_right _ (List.mem_append_right _ (List.mem_append_right _ (List.mem_append_left _ (List.mem_of_getElem? (i := 19) rfl)))))))) rfl
set_option maxRecDepth 100000 in
theorem kn_1224 : Cond.methodLinkNest RX5 90 yX6_passSign "NamesAgain" ∈ xn := xn_in (List.mem_append_right _ (List.mem_append_right _ (List.mem_append_right _ (List.mem_append_right _ (List.mem_append_right _ (List.mem_append_right _ (List.mem_append_left _ (List.mem_of_getElem? (i := 24) rfl)))))))) rfl
set_option maxRecDepth 100000 in
theorem kn_1229 : Cond.methodLinkNest RX5 118 yX7_findName "NamesAgain" ∈ xn := xn_in (List.mem_append_right _ (List.mem_append_right _ (List.mem_append_right _ (List.mem_append_right _ (List.mem_append_right _ (List.mem_append_right _ (List.mem_append_left _ (List.mem_of_getElem? (i := 29) rfl)))))))) rfl
set_option maxRecDepth 100000 in
theorem kn_1230 : Cond.methodLinkNest RX5 124 yX6_passKnown "NamesAgain" ∈ xn := xn_in (List.mem_append_right _ (List.mem_append_right _ (List.mem_append_right _ (List.mem_append_right _ (List.mem_append_right _ (List.mem_append_right _ (List.mem_append_left _ (List.mem_of_getElem? (i := 30) rfl)))))))) rfl
set_option maxRecDepth 100000 in
theorem kn_1231 : Cond.methodLinkNest RX5 132 yX6_passNumber "NamesAgain" ∈ xn := xn_in (List.mem_append_right _ (List.mem_append_right _ (List.mem_append_right _ (List.mem_append_right _ (List.mem_append_right _ (List.mem_append_right _ (List.mem_append_left _ (List.mem_of_getElem? (i := 31) rfl)))))))) rfl
set_option maxRecDepth 100000 in
theorem kn_1234 : Cond.methodLinkNest RX11 349 yX5_copyFrom "NamesAgain" ∈ xn := xn_in (List.mem_append_right _ (List.mem_append_right _ (List.mem_append_right _ (List.mem_append_right _ (List.mem_append_right _ (List.mem_append_right _ (List.mem_append_left _ (List.mem_of_getElem? (i := 34) rfl)))))))) rfl
set_option maxRecDepth 100000 in
theorem kn_1238 : Cond.methodLinkNest RX5 39 yX11_copyRow "NamesAgain" ∈ xn := xn_in (List.mem_append_right _ (List.mem_append_right _ (List.mem_append_right _ (List.mem_append_right _ (List.mem_append_right _ (List.mem_append_right _ (List.mem_append_left _ (List.mem_of_getElem? (i := 38) rfl)))))))) rfl
set_option maxRecDepth 100000 in
theorem kn_1243 : Cond.methodLinkNest RX11 352 yX5_soulsIn "NamesAgain" ∈ xn := xn_in (List.mem_append_right _ (List.mem_append_right _ (List.mem_append_right _ (List.mem_append_right _ (List.mem_append_right _ (List.mem_append_right _ (List.mem_append_left _ (List.mem_of_getElem? (i := 43) rfl)))))))) rfl
set_option maxRecDepth 100000 in
theorem kn_1258 : Cond.methodLinkNest RX5 174 yX2_owed "NamesAgain" ∈ xn := xn_in (List.mem_append_right _ (List.mem_append_right _ (List.mem_append_right _ (List.mem_append_right _ (List.mem_append_right _ (List.mem_append_right _ (List.mem_append_left _ (List.mem_of_getElem? (i := 58) rfl)))))))) rfl
set_option maxRecDepth 100000 in
theorem kn_1263 : Cond.methodLinkNest RX5 153 yX2_isAlive "NamesAgain" ∈ xn := xn_in (List.mem_append_right _ (List.mem_append_right _ (List.mem_append_right _ (List.mem_append_right _ (List.mem_append_right _ (List.mem_append_right _ (List.mem_append_left _ (List.mem_of_getElem? (i := 63) rfl)))))))) rfl
set_option maxRecDepth 100000 in
theorem kn_1264 : Cond.methodLinkNest RX5 156 yX2_doesWait "NamesAgain" ∈ xn := xn_in (List.mem_append_right _ (List.mem_append_right _ (List.mem_append_right _ (List.mem_append_right _ (List.mem_append_right _ (List.mem_append_right _ (List.mem_append_left _ (List.mem_of_getElem? (i := 64) rfl)))))))) rfl
set_option maxRecDepth 100000 in
theorem kn_1265 : Cond.methodLinkNest RX5 162 yX2_hasFled "NamesAgain" ∈ xn := xn_in (List.mem_append_right _ (List.mem_append_right _ (List.mem_append_right _ (List.mem_append_right _ (List.mem_append_right _ (List.mem_append_right _ (List.mem_append_left _ (List.mem_of_getElem? (i := 65) rfl)))))))) rfl
set_option maxRecDepth 100000 in
theorem kn_159 : Cond.fieldLinkNest RX2 65 RX7 "names" "I" "NamesAgain" ∈ xn := xn_in (List.mem_append_right _ (List.mem_append_left _ (List.mem_of_getElem? (i := 159) rfl))) rfl
set_option maxRecDepth 100000 in
theorem kn_160 : Cond.fieldLinkNest RX3 52 RX7 "names" "I" "NamesAgain" ∈ xn := xn_in (List.mem_append_right _ (List.mem_append_left _ (List.mem_of_getElem? (i := 160) rfl))) rfl
set_option maxRecDepth 100000 in
theorem kn_161 : Cond.fieldLinkNest RX8 96 RX7 "names" "I" "NamesAgain" ∈ xn := xn_in (List.mem_append_right _ (List.mem_append_left _ (List.mem_of_getElem? (i := 161) rfl))) rfl
set_option maxRecDepth 100000 in
theorem kn_162 : Cond.fieldLinkNest RX11 223 RX7 "names" "I" "NamesAgain" ∈ xn := xn_in (List.mem_append_right _ (List.mem_append_left _ (List.mem_of_getElem? (i := 162) rfl))) rfl
set_option maxRecDepth 100000 in
theorem kn_164 : Cond.fieldLinkNest RX2 45 RX7 "souls" "I" "NamesAgain" ∈ xn := xn_in (List.mem_append_right _ (List.mem_append_left _ (List.mem_of_getElem? (i := 164) rfl))) rfl
set_option maxRecDepth 100000 in
theorem kn_165 : Cond.fieldLinkNest RX10 34 RX7 "souls" "I" "NamesAgain" ∈ xn := xn_in (List.mem_append_right _ (List.mem_append_left _ (List.mem_of_getElem? (i := 165) rfl))) rfl
set_option maxRecDepth 100000 in
theorem kn_166 : Cond.fieldLinkNest RX8 120 RX7 "souls" "I" "NamesAgain" ∈ xn := xn_in (List.mem_append_right _ (List.mem_append_left _ (List.mem_of_getElem? (i := 166) rfl))) rfl
set_option maxRecDepth 100000 in
theorem kn_167 : Cond.fieldLinkNest RX11 216 RX7 "souls" "I" "NamesAgain" ∈ xn := xn_in (List.mem_append_right _ (List.mem_append_left _ (List.mem_of_getElem? (i := 167) rfl))) rfl
set_option maxRecDepth 100000 in
theorem kn_168 : Cond.fieldLinkNest RX5 139 RX7 "souls" "I" "NamesAgain" ∈ xn := xn_in (List.mem_append_right _ (List.mem_append_left _ (List.mem_of_getElem? (i := 168) rfl))) rfl
set_option maxRecDepth 100000 in
theorem kn_171 : Cond.fieldLinkNest RX3 75 RX7 "price" "[I" "NamesAgain" ∈ xn := xn_in (List.mem_append_right _ (List.mem_append_left _ (List.mem_of_getElem? (i := 171) rfl))) rfl
set_option maxRecDepth 100000 in
theorem kn_172 : Cond.fieldLinkNest RX11 146 RX7 "price" "[I" "NamesAgain" ∈ xn := xn_in (List.mem_append_right _ (List.mem_append_left _ (List.mem_of_getElem? (i := 172) rfl))) rfl
set_option maxRecDepth 100000 in
theorem kn_173 : Cond.fieldLinkNest RX2 113 RX7 "price" "[I" "NamesAgain" ∈ xn := xn_in (List.mem_append_right _ (List.mem_append_left _ (List.mem_of_getElem? (i := 173) rfl))) rfl
set_option maxRecDepth 100000 in
theorem kn_175 : Cond.fieldLinkNest RX2 68 RX7 "firstDebt" "[I" "NamesAgain" ∈ xn := xn_in (List.mem_append_right _ (List.mem_append_left _ (List.mem_of_getElem? (i := 175) rfl))) rfl
set_option maxRecDepth 100000 in
theorem kn_176 : Cond.fieldLinkNest RX8 59 RX7 "firstDebt" "[I" "NamesAgain" ∈ xn := xn_in (List.mem_append_right _ (List.mem_append_left _ (List.mem_of_getElem? (i := 176) rfl))) rfl
set_option maxRecDepth 100000 in
theorem kn_178 : Cond.fieldLinkNest RX8 69 RX7 "every" "[I" "NamesAgain" ∈ xn := xn_in (List.mem_append_right _ (List.mem_append_left _ (List.mem_of_getElem? (i := 178) rfl))) rfl
set_option maxRecDepth 100000 in
theorem kn_179 : Cond.fieldLinkNest RX11 166 RX7 "every" "[I" "NamesAgain" ∈ xn := xn_in (List.mem_append_right _ (List.mem_append_left _ (List.mem_of_getElem? (i := 179) rfl))) rfl
set_option maxRecDepth 100000 in
theorem kn_182 : Cond.fieldLinkNest RX2 77 RX7 "firstPurse" "[I" "NamesAgain" ∈ xn := xn_in (List.mem_append_right _ (List.mem_append_left _ (List.mem_of_getElem? (i := 182) rfl))) rfl
set_option maxRecDepth 100000 in
theorem kn_184 : Cond.fieldLinkNest RX2 80 RX7 "firstName" "[I" "NamesAgain" ∈ xn := xn_in (List.mem_append_right _ (List.mem_append_left _ (List.mem_of_getElem? (i := 184) rfl))) rfl
set_option maxRecDepth 100000 in
theorem kn_185 : Cond.fieldLinkNest RX8 144 RX7 "firstName" "[I" "NamesAgain" ∈ xn := xn_in (List.mem_append_right _ (List.mem_append_left _ (List.mem_of_getElem? (i := 185) rfl))) rfl
set_option maxRecDepth 100000 in
theorem kn_187 : Cond.fieldLinkNest RX10 57 RX7 "wish" "[I" "NamesAgain" ∈ xn := xn_in (List.mem_append_right _ (List.mem_append_left _ (List.mem_of_getElem? (i := 187) rfl))) rfl
set_option maxRecDepth 100000 in
theorem kn_188 : Cond.fieldLinkNest RX11 184 RX7 "wish" "[I" "NamesAgain" ∈ xn := xn_in (List.mem_append_right _ (List.mem_append_left _ (List.mem_of_getElem? (i := 188) rfl))) rfl
set_option maxRecDepth 100000 in
theorem kn_189 : Cond.fieldLinkNest RX8 154 RX7 "wish" "[I" "NamesAgain" ∈ xn := xn_in (List.mem_append_right _ (List.mem_append_left _ (List.mem_of_getElem? (i := 189) rfl))) rfl
set_option maxRecDepth 100000 in
theorem kn_190 : Cond.fieldLinkNest RX5 165 RX7 "wish" "[I" "NamesAgain" ∈ xn := xn_in (List.mem_append_right _ (List.mem_append_left _ (List.mem_of_getElem? (i := 190) rfl))) rfl
set_option maxRecDepth 100000 in
theorem kn_192 : Cond.fieldLinkNest RX8 156 RX7 "old" "[I" "NamesAgain" ∈ xn := xn_in (List.mem_append_right _ (List.mem_append_left _ (List.mem_of_getElem? (i := 192) rfl))) rfl
set_option maxRecDepth 100000 in
theorem kn_193 : Cond.fieldLinkNest RX11 290 RX7 "old" "[I" "NamesAgain" ∈ xn := xn_in (List.mem_append_right _ (List.mem_append_left _ (List.mem_of_getElem? (i := 193) rfl))) rfl
set_option maxRecDepth 100000 in
theorem kn_195 : Cond.fieldLinkNest RX8 165 RX7 "worthRow" "[I" "NamesAgain" ∈ xn := xn_in (List.mem_append_right _ (List.mem_append_left _ (List.mem_of_getElem? (i := 195) rfl))) rfl
set_option maxRecDepth 100000 in
theorem kn_231 : Cond.fieldLinkNest RX11 140 RX8 "lineCount" "I" "NamesAgain" ∈ xn := xn_in (List.mem_append_right _ (List.mem_append_left _ (List.mem_of_getElem? (i := 231) rfl))) rfl
set_option maxRecDepth 100000 in
theorem kn_246 : Cond.fieldLinkNest RX5 136 RX2 "told" "LNamesAgain$Told;" "NamesAgain" ∈ xn := xn_in (List.mem_append_right _ (List.mem_append_right _ (List.mem_append_left _ (List.mem_of_getElem? (i := 6) rfl)))) rfl
set_option maxRecDepth 100000 in
theorem kn_248 : Cond.fieldLinkNest RX4 129 RX2 "monday" "I" "NamesAgain" ∈ xn := xn_in (List.mem_append_right _ (List.mem_append_right _ (List.mem_append_left _ (List.mem_of_getElem? (i := 8) rfl)))) rfl
set_option maxRecDepth 100000 in
theorem kn_249 : Cond.fieldLinkNest RX11 203 RX2 "monday" "I" "NamesAgain" ∈ xn := xn_in (List.mem_append_right _ (List.mem_append_right _ (List.mem_append_left _ (List.mem_of_getElem? (i := 9) rfl)))) rfl
set_option maxRecDepth 100000 in
theorem kn_251 : Cond.fieldLinkNest RX11 206 RX2 "living" "I" "NamesAgain" ∈ xn := xn_in (List.mem_append_right _ (List.mem_append_right _ (List.mem_append_left _ (List.mem_of_getElem? (i := 11) rfl)))) rfl
set_option maxRecDepth 100000 in
theorem kn_254 : Cond.fieldLinkNest RX11 226 RX2 "fugitives" "I" "NamesAgain" ∈ xn := xn_in (List.mem_append_right _ (List.mem_append_right _ (List.mem_append_left _ (List.mem_of_getElem? (i := 14) rfl)))) rfl
set_option maxRecDepth 100000 in
theorem kn_256 : Cond.fieldLinkNest RX3 26 RX2 "waitCount" "I" "NamesAgain" ∈ xn := xn_in (List.mem_append_right _ (List.mem_append_right _ (List.mem_append_left _ (List.mem_of_getElem? (i := 16) rfl)))) rfl
set_option maxRecDepth 100000 in
theorem kn_258 : Cond.fieldLinkNest RX4 134 RX2 "waitCount" "I" "NamesAgain" ∈ xn := xn_in (List.mem_append_right _ (List.mem_append_right _ (List.mem_append_left _ (List.mem_of_getElem? (i := 18) rfl)))) rfl
set_option maxRecDepth 100000 in
theorem kn_259 : Cond.fieldLinkNest RX11 213 RX2 "waitCount" "I" "NamesAgain" ∈ xn := xn_in (List.mem_append_right _ (List.mem_append_right _ (List.mem_append_left _ (List.mem_of_getElem? (i := 19) rfl)))) rfl
set_option maxRecDepth 100000 in
theorem kn_261 : Cond.fieldLinkNest RX3 61 RX2 "bearer" "[I" "NamesAgain" ∈ xn := xn_in (List.mem_append_right _ (List.mem_append_right _ (List.mem_append_left _ (List.mem_of_getElem? (i := 21) rfl)))) rfl
set_option maxRecDepth 100000 in
theorem kn_262 : Cond.fieldLinkNest RX10 71 RX2 "bearer" "[I" "NamesAgain" ∈ xn := xn_in (List.mem_append_right _ (List.mem_append_right _ (List.mem_append_left _ (List.mem_of_getElem? (i := 22) rfl)))) rfl
set_option maxRecDepth 100000 in
theorem kn_263 : Cond.fieldLinkNest RX11 157 RX2 "bearer" "[I" "NamesAgain" ∈ xn := xn_in (List.mem_append_right _ (List.mem_append_right _ (List.mem_append_left _ (List.mem_of_getElem? (i := 23) rfl)))) rfl
set_option maxRecDepth 100000 in
theorem kn_265 : Cond.fieldLinkNest RX11 154 RX2 "debt" "[I" "NamesAgain" ∈ xn := xn_in (List.mem_append_right _ (List.mem_append_right _ (List.mem_append_left _ (List.mem_of_getElem? (i := 25) rfl)))) rfl
set_option maxRecDepth 100000 in
theorem kn_268 : Cond.fieldLinkNest RX10 68 RX2 "nameOf" "[I" "NamesAgain" ∈ xn := xn_in (List.mem_append_right _ (List.mem_append_right _ (List.mem_append_left _ (List.mem_of_getElem? (i := 28) rfl)))) rfl
set_option maxRecDepth 100000 in
theorem kn_269 : Cond.fieldLinkNest RX11 175 RX2 "nameOf" "[I" "NamesAgain" ∈ xn := xn_in (List.mem_append_right _ (List.mem_append_right _ (List.mem_append_left _ (List.mem_of_getElem? (i := 29) rfl)))) rfl
set_option maxRecDepth 100000 in
theorem kn_270 : Cond.fieldLinkNest RX5 159 RX2 "nameOf" "[I" "NamesAgain" ∈ xn := xn_in (List.mem_append_right _ (List.mem_append_right _ (List.mem_append_left _ (List.mem_of_getElem? (i := 30) rfl)))) rfl
set_option maxRecDepth 100000 in
theorem kn_272 : Cond.fieldLinkNest RX3 41 RX2 "purse" "[I" "NamesAgain" ∈ xn := xn_in (List.mem_append_right _ (List.mem_append_right _ (List.mem_append_left _ (List.mem_of_getElem? (i := 32) rfl)))) rfl
set_option maxRecDepth 100000 in
theorem kn_273 : Cond.fieldLinkNest RX11 178 RX2 "purse" "[I" "NamesAgain" ∈ xn := xn_in (List.mem_append_right _ (List.mem_append_right _ (List.mem_append_left _ (List.mem_of_getElem? (i := 33) rfl)))) rfl
set_option maxRecDepth 100000 in
theorem kn_274 : Cond.fieldLinkNest RX5 172 RX2 "purse" "[I" "NamesAgain" ∈ xn := xn_in (List.mem_append_right _ (List.mem_append_right _ (List.mem_append_left _ (List.mem_of_getElem? (i := 34) rfl)))) rfl
set_option maxRecDepth 100000 in
theorem kn_276 : Cond.fieldLinkNest RX11 196 RX2 "feasted" "[I" "NamesAgain" ∈ xn := xn_in (List.mem_append_right _ (List.mem_append_right _ (List.mem_append_left _ (List.mem_of_getElem? (i := 36) rfl)))) rfl
set_option maxRecDepth 100000 in
theorem kn_277 : Cond.fieldLinkNest RX5 178 RX2 "feasted" "[I" "NamesAgain" ∈ xn := xn_in (List.mem_append_right _ (List.mem_append_right _ (List.mem_append_left _ (List.mem_of_getElem? (i := 37) rfl)))) rfl
set_option maxRecDepth 100000 in
theorem kn_279 : Cond.fieldLinkNest RX3 31 RX2 "waiting" "[I" "NamesAgain" ∈ xn := xn_in (List.mem_append_right _ (List.mem_append_right _ (List.mem_append_left _ (List.mem_of_getElem? (i := 39) rfl)))) rfl
set_option maxRecDepth 100000 in
theorem kn_280 : Cond.fieldLinkNest RX11 319 RX2 "waiting" "[I" "NamesAgain" ∈ xn := xn_in (List.mem_append_right _ (List.mem_append_right _ (List.mem_append_left _ (List.mem_of_getElem? (i := 40) rfl)))) rfl
set_option maxRecDepth 100000 in
theorem kn_325 : Cond.fieldLinkNest RX11 260 RX9 "size" "I" "NamesAgain" ∈ xn := xn_in (List.mem_append_right _ (List.mem_append_right _ (List.mem_append_left _ (List.mem_of_getElem? (i := 85) rfl)))) rfl
set_option maxRecDepth 100000 in
theorem kn_346 : Cond.fieldLinkNest RX11 332 RX4 "judged" "Z" "NamesAgain" ∈ xn := xn_in (List.mem_append_right _ (List.mem_append_right _ (List.mem_append_left _ (List.mem_of_getElem? (i := 106) rfl)))) rfl
set_option maxRecDepth 100000 in
theorem kn_348 : Cond.fieldLinkNest RX11 336 RX4 "reason" "I" "NamesAgain" ∈ xn := xn_in (List.mem_append_right _ (List.mem_append_right _ (List.mem_append_left _ (List.mem_of_getElem? (i := 108) rfl)))) rfl
set_option maxRecDepth 100000 in
theorem kn_350 : Cond.fieldLinkNest RX11 339 RX4 "goodLines" "I" "NamesAgain" ∈ xn := xn_in (List.mem_append_right _ (List.mem_append_right _ (List.mem_append_left _ (List.mem_of_getElem? (i := 110) rfl)))) rfl
set_option maxRecDepth 100000 in
theorem kn_352 : Cond.fieldLinkNest RX11 342 RX4 "mondayThen" "I" "NamesAgain" ∈ xn := xn_in (List.mem_append_right _ (List.mem_append_right _ (List.mem_append_left _ (List.mem_of_getElem? (i := 112) rfl)))) rfl
set_option maxRecDepth 100000 in
theorem kn_354 : Cond.fieldLinkNest RX11 345 RX4 "waitingThen" "I" "NamesAgain" ∈ xn := xn_in (List.mem_append_right _ (List.mem_append_right _ (List.mem_append_left _ (List.mem_of_getElem? (i := 114) rfl)))) rfl
set_option maxRecDepth 100000 in
theorem kn_392 : Cond.fieldLinkNest RX11 137 RX5 "ones" "I" "NamesAgain" ∈ xn := xn_in (List.mem_append_right _ (List.mem_append_right _ (List.mem_append_left _ (List.mem_of_getElem? (i := 152) rfl)))) rfl
set_option maxRecDepth 100000 in
theorem kn_441 : Cond.fieldLinkNest RX11 287 RX3 "secondBid" "I" "NamesAgain" ∈ xn := xn_in (List.mem_append_right _ (List.mem_append_right _ (List.mem_append_left _ (List.mem_of_getElem? (i := 201) rfl)))) rfl
set_option maxRecDepth 100000 in
theorem kn_444 : Cond.fieldLinkNest RX11 313 RX3 "cheapestName" "I" "NamesAgain" ∈ xn := xn_in (List.mem_append_right _ (List.mem_append_right _ (List.mem_append_left _ (List.mem_of_getElem? (i := 204) rfl)))) rfl
set_option maxRecDepth 100000 in
theorem kn_463 : Cond.fieldLinkNest RX11 241 RX0 "seed" "I" "NamesAgain" ∈ xn := xn_in (List.mem_append_right _ (List.mem_append_right _ (List.mem_append_left _ (List.mem_of_getElem? (i := 223) rfl)))) rfl
set_option maxRecDepth 100000 in
theorem kn_481 : Cond.fieldLinkNest RX11 358 RX1 "told" "LNamesAgain$Told;" "NamesAgain" ∈ xn := xn_in (List.mem_append_right _ (List.mem_append_right _ (List.mem_append_right _ (List.mem_append_left _ (List.mem_of_getElem? (i := 1) rfl))))) rfl
set_option maxRecDepth 100000 in
theorem kn_483 : Cond.fieldLinkNest RX11 359 RX1 "life" "LNamesAgain$Life;" "NamesAgain" ∈ xn := xn_in (List.mem_append_right _ (List.mem_append_right _ (List.mem_append_right _ (List.mem_append_left _ (List.mem_of_getElem? (i := 3) rfl))))) rfl
set_option maxRecDepth 100000 in
theorem kn_485 : Cond.fieldLinkNest RX11 360 RX1 "saying" "LNamesAgain$Sentence;" "NamesAgain" ∈ xn := xn_in (List.mem_append_right _ (List.mem_append_right _ (List.mem_append_right _ (List.mem_append_left _ (List.mem_of_getElem? (i := 5) rfl))))) rfl
set_option maxRecDepth 100000 in
theorem kn_486 : Cond.fieldLinkNest RX11 361 RX1 "isKept" "Z" "NamesAgain" ∈ xn := xn_in (List.mem_append_right _ (List.mem_append_right _ (List.mem_append_right _ (List.mem_append_left _ (List.mem_of_getElem? (i := 6) rfl))))) rfl
set_option maxRecDepth 100000 in
theorem kn_546 : Cond.methodLinkNest RX11 103 yX6_hasRoom "NamesAgain" ∈ xn := xn_in (List.mem_append_right _ (List.mem_append_right _ (List.mem_append_right _ (List.mem_append_left _ (List.mem_of_getElem? (i := 66) rfl))))) rfl
set_option maxRecDepth 100000 in
theorem kn_550 : Cond.methodLinkNest RX11 107 yX6_put "NamesAgain" ∈ xn := xn_in (List.mem_append_right _ (List.mem_append_right _ (List.mem_append_right _ (List.mem_append_left _ (List.mem_of_getElem? (i := 70) rfl))))) rfl
set_option maxRecDepth 100000 in
theorem kn_562 : Cond.methodLinkNest RX11 115 yX8_read "NamesAgain" ∈ xn := xn_in (List.mem_append_right _ (List.mem_append_right _ (List.mem_append_right _ (List.mem_append_left _ (List.mem_of_getElem? (i := 82) rfl))))) rfl
set_option maxRecDepth 100000 in
theorem kn_566 : Cond.methodLinkNest RX8 19 yX7_clear "NamesAgain" ∈ xn := xn_in (List.mem_append_right _ (List.mem_append_right _ (List.mem_append_right _ (List.mem_append_left _ (List.mem_of_getElem? (i := 86) rfl))))) rfl
set_option maxRecDepth 100000 in
theorem kn_570 : Cond.methodLinkNest RX8 24 yX6_startText "NamesAgain" ∈ xn := xn_in (List.mem_append_right _ (List.mem_append_right _ (List.mem_append_right _ (List.mem_append_left _ (List.mem_of_getElem? (i := 90) rfl))))) rfl
set_option maxRecDepth 100000 in
theorem kn_583 : Cond.methodLinkNest RX8 47 yX6_isWord "NamesAgain" ∈ xn := xn_in (List.mem_append_right _ (List.mem_append_right _ (List.mem_append_right _ (List.mem_append_left _ (List.mem_of_getElem? (i := 103) rfl))))) rfl
set_option maxRecDepth 100000 in
theorem kn_591 : Cond.methodLinkNest RX8 92 yX6_refuse "NamesAgain" ∈ xn := xn_in (List.mem_append_right _ (List.mem_append_right _ (List.mem_append_right _ (List.mem_append_left _ (List.mem_of_getElem? (i := 111) rfl))))) rfl
set_option maxRecDepth 100000 in
theorem kn_595 : Cond.methodLinkNest RX8 99 yX6_advance "NamesAgain" ∈ xn := xn_in (List.mem_append_right _ (List.mem_append_right _ (List.mem_append_right _ (List.mem_append_left _ (List.mem_of_getElem? (i := 115) rfl))))) rfl
set_option maxRecDepth 100000 in
theorem kn_600 : Cond.methodLinkNest RX8 168 yX6_canBeNameOrSoul "NamesAgain" ∈ xn := xn_in (List.mem_append_right _ (List.mem_append_right _ (List.mem_append_right _ (List.mem_append_left _ (List.mem_of_getElem? (i := 120) rfl))))) rfl
set_option maxRecDepth 100000 in
theorem kn_604 : Cond.methodLinkNest RX8 131 yX7_findName "NamesAgain" ∈ xn := xn_in (List.mem_append_right _ (List.mem_append_right _ (List.mem_append_right _ (List.mem_append_left _ (List.mem_of_getElem? (i := 124) rfl))))) rfl
set_option maxRecDepth 100000 in
theorem kn_611 : Cond.methodLinkNest RX8 151 yX7_findSoul "NamesAgain" ∈ xn := xn_in (List.mem_append_right _ (List.mem_append_right _ (List.mem_append_right _ (List.mem_append_left _ (List.mem_of_getElem? (i := 131) rfl))))) rfl
set_option maxRecDepth 100000 in
theorem kn_615 : Cond.methodLinkNest RX8 56 yX6_pass "NamesAgain" ∈ xn := xn_in (List.mem_append_right _ (List.mem_append_right _ (List.mem_append_right _ (List.mem_append_left _ (List.mem_of_getElem? (i := 135) rfl))))) rfl
set_option maxRecDepth 100000 in
theorem kn_619 : Cond.methodLinkNest RX8 109 yX6_passNumber "NamesAgain" ∈ xn := xn_in (List.mem_append_right _ (List.mem_append_right _ (List.mem_append_right _ (List.mem_append_left _ (List.mem_of_getElem? (i := 139) rfl))))) rfl
set_option maxRecDepth 100000 in
theorem kn_624 : Cond.methodLinkNest RX8 116 yX7_addName "NamesAgain" ∈ xn := xn_in (List.mem_append_right _ (List.mem_append_right _ (List.mem_append_right _ (List.mem_append_left _ (List.mem_of_getElem? (i := 144) rfl))))) rfl
set_option maxRecDepth 100000 in
theorem kn_637 : Cond.methodLinkNest RX8 138 yX6_passKnown "NamesAgain" ∈ xn := xn_in (List.mem_append_right _ (List.mem_append_right _ (List.mem_append_right _ (List.mem_append_left _ (List.mem_of_getElem? (i := 157) rfl))))) rfl
set_option maxRecDepth 100000 in
theorem kn_648 : Cond.methodLinkNest RX8 123 yX7_addSoul "NamesAgain" ∈ xn := xn_in (List.mem_append_right _ (List.mem_append_right _ (List.mem_append_right _ (List.mem_append_left _ (List.mem_of_getElem? (i := 168) rfl))))) rfl
set_option maxRecDepth 100000 in
theorem kn_657 : Cond.methodLinkNest RX8 135 yX7_isBorneAtFirst "NamesAgain" ∈ xn := xn_in (List.mem_append_right _ (List.mem_append_right _ (List.mem_append_right _ (List.mem_append_left _ (List.mem_of_getElem? (i := 177) rfl))))) rfl
set_option maxRecDepth 100000 in
theorem kn_661 : Cond.methodLinkNest RX8 141 yX7_isSoul "NamesAgain" ∈ xn := xn_in (List.mem_append_right _ (List.mem_append_right _ (List.mem_append_right _ (List.mem_append_left _ (List.mem_of_getElem? (i := 181) rfl))))) rfl
set_option maxRecDepth 100000 in
theorem kn_675 : Cond.methodLinkNest RX8 158 yX7_worthOf "NamesAgain" ∈ xn := xn_in (List.mem_append_right _ (List.mem_append_right _ (List.mem_append_right _ (List.mem_append_left _ (List.mem_of_getElem? (i := 195) rfl))))) rfl
set_option maxRecDepth 100000 in
theorem kn_684 : Cond.methodLinkNest RX8 162 yX7_isName "NamesAgain" ∈ xn := xn_in (List.mem_append_right _ (List.mem_append_right _ (List.mem_append_right _ (List.mem_append_left _ (List.mem_of_getElem? (i := 204) rfl))))) rfl
set_option maxRecDepth 100000 in
theorem kn_690 : Cond.methodLinkNest RX8 41 yX6_passSign "NamesAgain" ∈ xn := xn_in (List.mem_append_right _ (List.mem_append_right _ (List.mem_append_right _ (List.mem_append_left _ (List.mem_of_getElem? (i := 210) rfl))))) rfl
set_option maxRecDepth 100000 in
theorem kn_699 : Cond.methodLinkNest RX11 128 yX7_copyFrom "NamesAgain" ∈ xn := xn_in (List.mem_append_right _ (List.mem_append_right _ (List.mem_append_right _ (List.mem_append_left _ (List.mem_of_getElem? (i := 219) rfl))))) rfl
set_option maxRecDepth 100000 in
theorem kn_703 : Cond.methodLinkNest RX7 50 yX11_copyRow_ "NamesAgain" ∈ xn := xn_in (List.mem_append_right _ (List.mem_append_right _ (List.mem_append_right _ (List.mem_append_left _ (List.mem_of_getElem? (i := 223) rfl))))) rfl
set_option maxRecDepth 100000 in
theorem kn_712 : Cond.methodLinkNest RX7 54 yX11_copyRow "NamesAgain" ∈ xn := xn_in (List.mem_append_right _ (List.mem_append_right _ (List.mem_append_right _ (List.mem_append_left _ (List.mem_of_getElem? (i := 232) rfl))))) rfl
set_option maxRecDepth 100000 in
theorem kn_715 : Cond.methodLinkNest RX11 131 yX2_begin "NamesAgain" ∈ xn := xn_in (List.mem_append_right _ (List.mem_append_right _ (List.mem_append_right _ (List.mem_append_left _ (List.mem_of_getElem? (i := 235) rfl))))) rfl
set_option maxRecDepth 100000 in
theorem kn_722 : Cond.methodLinkNest RX2 83 yX7_isName "NamesAgain" ∈ xn := xn_in (List.mem_append_right _ (List.mem_append_right _ (List.mem_append_right _ (List.mem_append_right _ (List.mem_append_left _ (List.mem_of_getElem? (i := 2) rfl)))))) rfl
set_option maxRecDepth 100000 in
theorem kn_731 : Cond.methodLinkNest RX11 134 yX9_forget "NamesAgain" ∈ xn := xn_in (List.mem_append_right _ (List.mem_append_right _ (List.mem_append_right _ (List.mem_append_right _ (List.mem_append_left _ (List.mem_of_getElem? (i := 11) rfl)))))) rfl
set_option maxRecDepth 100000 in
theorem kn_743 : Cond.methodLinkNest RX11 143 yX7_isName "NamesAgain" ∈ xn := xn_in (List.mem_append_right _ (List.mem_append_right _ (List.mem_append_right _ (List.mem_append_right _ (List.mem_append_left _ (List.mem_of_getElem? (i := 23) rfl)))))) rfl
set_option maxRecDepth 100000 in
theorem kn_744 : Cond.methodLinkNest RX11 150 yX2_cost "NamesAgain" ∈ xn := xn_in (List.mem_append_right _ (List.mem_append_right _ (List.mem_append_right _ (List.mem_append_right _ (List.mem_append_left _ (List.mem_of_getElem? (i := 24) rfl)))))) rfl
set_option maxRecDepth 100000 in
theorem kn_752 : Cond.methodLinkNest RX11 160 yX2_isSour "NamesAgain" ∈ xn := xn_in (List.mem_append_right _ (List.mem_append_right _ (List.mem_append_right _ (List.mem_append_right _ (List.mem_append_left _ (List.mem_of_getElem? (i := 32) rfl)))))) rfl
set_option maxRecDepth 100000 in
theorem kn_756 : Cond.methodLinkNest RX2 102 yX11_hasBit "NamesAgain" ∈ xn := xn_in (List.mem_append_right _ (List.mem_append_right _ (List.mem_append_right _ (List.mem_append_right _ (List.mem_append_left _ (List.mem_of_getElem? (i := 36) rfl)))))) rfl
set_option maxRecDepth 100000 in
theorem kn_759 : Cond.methodLinkNest RX11 163 yX2_hangedYet "NamesAgain" ∈ xn := xn_in (List.mem_append_right _ (List.mem_append_right _ (List.mem_append_right _ (List.mem_append_right _ (List.mem_append_left _ (List.mem_of_getElem? (i := 39) rfl)))))) rfl
set_option maxRecDepth 100000 in
theorem kn_764 : Cond.methodLinkNest RX11 169 yX7_isSoul "NamesAgain" ∈ xn := xn_in (List.mem_append_right _ (List.mem_append_right _ (List.mem_append_right _ (List.mem_append_right _ (List.mem_append_left _ (List.mem_of_getElem? (i := 44) rfl)))))) rfl
set_option maxRecDepth 100000 in
theorem kn_765 : Cond.methodLinkNest RX11 199 yX7_worthOf "NamesAgain" ∈ xn := xn_in (List.mem_append_right _ (List.mem_append_right _ (List.mem_append_right _ (List.mem_append_right _ (List.mem_append_left _ (List.mem_of_getElem? (i := 45) rfl)))))) rfl
set_option maxRecDepth 100000 in
theorem kn_770 : Cond.methodLinkNest RX11 209 yX2_freeNames "NamesAgain" ∈ xn := xn_in (List.mem_append_right _ (List.mem_append_right _ (List.mem_append_right _ (List.mem_append_right _ (List.mem_append_left _ (List.mem_of_getElem? (i := 50) rfl)))))) rfl
set_option maxRecDepth 100000 in
theorem kn_785 : Cond.methodLinkNest RX11 364 yX2_whyNot "NamesAgain" ∈ xn := xn_in (List.mem_append_right _ (List.mem_append_right _ (List.mem_append_right _ (List.mem_append_right _ (List.mem_append_left _ (List.mem_of_getElem? (i := 65) rfl)))))) rfl
set_option maxRecDepth 100000 in
theorem kn_827 : Cond.methodLinkNest RX11 237 yX9_keep "NamesAgain" ∈ xn := xn_in (List.mem_append_right _ (List.mem_append_right _ (List.mem_append_right _ (List.mem_append_right _ (List.mem_append_left _ (List.mem_of_getElem? (i := 107) rfl)))))) rfl
set_option maxRecDepth 100000 in
theorem kn_831 : Cond.methodLinkNest RX9 22 yX2_copyFrom "NamesAgain" ∈ xn := xn_in (List.mem_append_right _ (List.mem_append_right _ (List.mem_append_right _ (List.mem_append_right _ (List.mem_append_left _ (List.mem_of_getElem? (i := 111) rfl)))))) rfl
set_option maxRecDepth 100000 in
theorem kn_835 : Cond.methodLinkNest RX2 95 yX11_copyRow "NamesAgain" ∈ xn := xn_in (List.mem_append_right _ (List.mem_append_right _ (List.mem_append_right _ (List.mem_append_right _ (List.mem_append_left _ (List.mem_of_getElem? (i := 115) rfl)))))) rfl
set_option maxRecDepth 100000 in
theorem kn_836 : Cond.methodLinkNest RX2 99 yX11_copyRow_ "NamesAgain" ∈ xn := xn_in (List.mem_append_right _ (List.mem_append_right _ (List.mem_append_right _ (List.mem_append_right _ (List.mem_append_left _ (List.mem_of_getElem? (i := 116) rfl)))))) rfl
set_option maxRecDepth 100000 in
theorem kn_838 : Cond.methodLinkNest RX11 367 yX2_act "NamesAgain" ∈ xn := xn_in (List.mem_append_right _ (List.mem_append_right _ (List.mem_append_right _ (List.mem_append_right _ (List.mem_append_left _ (List.mem_of_getElem? (i := 118) rfl)))))) rfl
set_option maxRecDepth 100000 in
theorem kn_879 : Cond.methodLinkNest RX2 191 yX7_isFeast "NamesAgain" ∈ xn := xn_in (List.mem_append_right _ (List.mem_append_right _ (List.mem_append_right _ (List.mem_append_right _ (List.mem_append_left _ (List.mem_of_getElem? (i := 159) rfl)))))) rfl
set_option maxRecDepth 100000 in
theorem kn_919 : Cond.methodLinkNest RX11 244 yX2_drawLot "NamesAgain" ∈ xn := xn_in (List.mem_append_right _ (List.mem_append_right _ (List.mem_append_right _ (List.mem_append_right _ (List.mem_append_left _ (List.mem_of_getElem? (i := 199) rfl)))))) rfl
set_option maxRecDepth 100000 in
theorem kn_923 : Cond.methodLinkNest RX2 177 yX0_next "NamesAgain" ∈ xn := xn_in (List.mem_append_right _ (List.mem_append_right _ (List.mem_append_right _ (List.mem_append_right _ (List.mem_append_left _ (List.mem_of_getElem? (i := 203) rfl)))))) rfl
set_option maxRecDepth 100000 in
theorem kn_932 : Cond.methodLinkNest RX11 253 yX2_passMondays "NamesAgain" ∈ xn := xn_in (List.mem_append_right _ (List.mem_append_right _ (List.mem_append_right _ (List.mem_append_right _ (List.mem_append_left _ (List.mem_of_getElem? (i := 212) rfl)))))) rfl
set_option maxRecDepth 100000 in
theorem kn_937 : Cond.methodLinkNest RX11 256 yX9_takeBack "NamesAgain" ∈ xn := xn_in (List.mem_append_right _ (List.mem_append_right _ (List.mem_append_right _ (List.mem_append_right _ (List.mem_append_left _ (List.mem_of_getElem? (i := 217) rfl)))))) rfl
set_option maxRecDepth 100000 in
theorem kn_945 : Cond.methodLinkNest RX11 263 yX2_hasGone "NamesAgain" ∈ xn := xn_in (List.mem_append_right _ (List.mem_append_right _ (List.mem_append_right _ (List.mem_append_right _ (List.mem_append_left _ (List.mem_of_getElem? (i := 225) rfl)))))) rfl
set_option maxRecDepth 100000 in
theorem kn_949 : Cond.methodLinkNest RX11 266 yX2_calledThen "NamesAgain" ∈ xn := xn_in (List.mem_append_right _ (List.mem_append_right _ (List.mem_append_right _ (List.mem_append_right _ (List.mem_append_left _ (List.mem_of_getElem? (i := 229) rfl)))))) rfl
set_option maxRecDepth 100000 in
theorem kn_959 : Cond.methodLinkNest RX11 269 yX2_holderThen "NamesAgain" ∈ xn := xn_in (List.mem_append_right _ (List.mem_append_right _ (List.mem_append_right _ (List.mem_append_right _ (List.mem_append_left _ (List.mem_of_getElem? (i := 239) rfl)))))) rfl
set_option maxRecDepth 100000 in
theorem kn_968 : Cond.methodLinkNest RX11 272 yX2_timesCalled "NamesAgain" ∈ xn := xn_in (List.mem_append_right _ (List.mem_append_right _ (List.mem_append_right _ (List.mem_append_right _ (List.mem_append_right _ (List.mem_append_left _ (List.mem_of_getElem? (i := 8) rfl))))))) rfl
set_option maxRecDepth 100000 in
theorem kn_97 : Cond.fieldLinkNest RX11 111 RX6 "length" "I" "NamesAgain" ∈ xn := xn_in (List.mem_append_right _ (List.mem_append_left _ (List.mem_of_getElem? (i := 97) rfl))) rfl
set_option maxRecDepth 100000 in
theorem kn_980 : Cond.methodLinkNest RX11 275 yX10_findMondays "NamesAgain" ∈ xn := xn_in (List.mem_append_right _ (List.mem_append_right _ (List.mem_append_right _ (List.mem_append_right _ (List.mem_append_right _ (List.mem_append_left _ (List.mem_of_getElem? (i := 20) rfl))))))) rfl
set_option maxRecDepth 100000 in
theorem kn_988 : Cond.methodLinkNest RX10 60 yX2_isAlive "NamesAgain" ∈ xn := xn_in (List.mem_append_right _ (List.mem_append_right _ (List.mem_append_right _ (List.mem_append_right _ (List.mem_append_right _ (List.mem_append_left _ (List.mem_of_getElem? (i := 28) rfl))))))) rfl
set_option maxRecDepth 100000 in
theorem kn_989 : Cond.methodLinkNest RX10 65 yX7_isName "NamesAgain" ∈ xn := xn_in (List.mem_append_right _ (List.mem_append_right _ (List.mem_append_right _ (List.mem_append_right _ (List.mem_append_right _ (List.mem_append_left _ (List.mem_of_getElem? (i := 29) rfl))))))) rfl
set_option maxRecDepth 100000 in
theorem kn_990 : Cond.methodLinkNest RX10 74 yX11_hasBit "NamesAgain" ∈ xn := xn_in (List.mem_append_right _ (List.mem_append_right _ (List.mem_append_right _ (List.mem_append_right _ (List.mem_append_right _ (List.mem_append_left _ (List.mem_of_getElem? (i := 30) rfl))))))) rfl
set_option maxRecDepth 100000 in
theorem ks_1 : Cond.selects RX6 yX6_hasRoom yX6_hasRoom ∈ xg := xg_in (List.mem_append_left _ (List.mem_of_getElem? (i := 1) rfl)) rfl
set_option maxRecDepth 100000 in
theorem ks_10 : Cond.selects RX6 yX6_refuse yX6_refuse ∈ xg := xg_in (List.mem_append_left _ (List.mem_of_getElem? (i := 10) rfl)) rfl
set_option maxRecDepth 100000 in
theorem ks_100 : Cond.selects RX5 yX5_read yX5_read ∈ xg := xg_in (List.mem_append_left _ (List.mem_of_getElem? (i := 100) rfl)) rfl
set_option maxRecDepth 100000 in
theorem ks_101 : Cond.selects RX5 yX5_readCond yX5_readCond ∈ xg := xg_in (List.mem_append_left _ (List.mem_of_getElem? (i := 101) rfl)) rfl
set_option maxRecDepth 100000 in
theorem ks_102 : Cond.selects RX5 yX5_readAll yX5_readAll ∈ xg := xg_in (List.mem_append_left _ (List.mem_of_getElem? (i := 102) rfl)) rfl
set_option maxRecDepth 100000 in
theorem ks_103 : Cond.selects RX5 yX5_readOne yX5_readOne ∈ xg := xg_in (List.mem_append_left _ (List.mem_of_getElem? (i := 103) rfl)) rfl
set_option maxRecDepth 100000 in
theorem ks_104 : Cond.selects RX5 yX5_leafAhead yX5_leafAhead ∈ xg := xg_in (List.mem_append_left _ (List.mem_of_getElem? (i := 104) rfl)) rfl
set_option maxRecDepth 100000 in
theorem ks_105 : Cond.selects RX5 yX5_addStep yX5_addStep ∈ xg := xg_in (List.mem_append_left _ (List.mem_of_getElem? (i := 105) rfl)) rfl
set_option maxRecDepth 100000 in
theorem ks_106 : Cond.selects RX5 yX5_readLeaf yX5_readLeaf ∈ xg := xg_in (List.mem_append_left _ (List.mem_of_getElem? (i := 106) rfl)) rfl
set_option maxRecDepth 100000 in
theorem ks_107 : Cond.selects RX5 yX5_copyFrom yX5_copyFrom ∈ xg := xg_in (List.mem_append_left _ (List.mem_of_getElem? (i := 107) rfl)) rfl
set_option maxRecDepth 100000 in
theorem ks_108 : Cond.selects RX5 yX5_soulsIn yX5_soulsIn ∈ xg := xg_in (List.mem_append_left _ (List.mem_of_getElem? (i := 108) rfl)) rfl
set_option maxRecDepth 100000 in
theorem ks_109 : Cond.selects RX5 yX5_soulsOfLeaf yX5_soulsOfLeaf ∈ xg := xg_in (List.mem_append_left _ (List.mem_of_getElem? (i := 109) rfl)) rfl
set_option maxRecDepth 100000 in
theorem ks_11 : Cond.selects RX8 yX8_passNewWord yX8_passNewWord ∈ xg := xg_in (List.mem_append_left _ (List.mem_of_getElem? (i := 11) rfl)) rfl
set_option maxRecDepth 100000 in
theorem ks_110 : Cond.selects RX5 yX5_isMeasured yX5_isMeasured ∈ xg := xg_in (List.mem_append_left _ (List.mem_of_getElem? (i := 110) rfl)) rfl
set_option maxRecDepth 100000 in
theorem ks_111 : Cond.selects RX5 yX5_isSo yX5_isSo ∈ xg := xg_in (List.mem_append_left _ (List.mem_of_getElem? (i := 111) rfl)) rfl
set_option maxRecDepth 100000 in
theorem ks_112 : Cond.selects RX2 yX2_hasFled yX2_hasFled ∈ xg := xg_in (List.mem_append_left _ (List.mem_of_getElem? (i := 112) rfl)) rfl
set_option maxRecDepth 100000 in
theorem ks_12 : Cond.selects RX6 yX6_canBeNameOrSoul yX6_canBeNameOrSoul ∈ xg := xg_in (List.mem_append_left _ (List.mem_of_getElem? (i := 12) rfl)) rfl
set_option maxRecDepth 100000 in
theorem ks_13 : Cond.selects RX7 yX7_findName yX7_findName ∈ xg := xg_in (List.mem_append_left _ (List.mem_of_getElem? (i := 13) rfl)) rfl
set_option maxRecDepth 100000 in
theorem ks_14 : Cond.selects RX7 yX7_findSoul yX7_findSoul ∈ xg := xg_in (List.mem_append_left _ (List.mem_of_getElem? (i := 14) rfl)) rfl
set_option maxRecDepth 100000 in
theorem ks_15 : Cond.selects RX6 yX6_pass yX6_pass ∈ xg := xg_in (List.mem_append_left _ (List.mem_of_getElem? (i := 15) rfl)) rfl
set_option maxRecDepth 100000 in
theorem ks_16 : Cond.selects RX6 yX6_passNumber yX6_passNumber ∈ xg := xg_in (List.mem_append_left _ (List.mem_of_getElem? (i := 16) rfl)) rfl
set_option maxRecDepth 100000 in
theorem ks_17 : Cond.selects RX7 yX7_addName yX7_addName ∈ xg := xg_in (List.mem_append_left _ (List.mem_of_getElem? (i := 17) rfl)) rfl
set_option maxRecDepth 100000 in
theorem ks_18 : Cond.selects RX8 yX8_readOfName yX8_readOfName ∈ xg := xg_in (List.mem_append_left _ (List.mem_of_getElem? (i := 18) rfl)) rfl
set_option maxRecDepth 100000 in
theorem ks_19 : Cond.selects RX8 yX8_passOnce yX8_passOnce ∈ xg := xg_in (List.mem_append_left _ (List.mem_of_getElem? (i := 19) rfl)) rfl
set_option maxRecDepth 100000 in
theorem ks_2 : Cond.selects RX6 yX6_put yX6_put ∈ xg := xg_in (List.mem_append_left _ (List.mem_of_getElem? (i := 2) rfl)) rfl
set_option maxRecDepth 100000 in
theorem ks_20 : Cond.selects RX6 yX6_passKnown yX6_passKnown ∈ xg := xg_in (List.mem_append_left _ (List.mem_of_getElem? (i := 20) rfl)) rfl
set_option maxRecDepth 100000 in
theorem ks_21 : Cond.selects RX8 yX8_readSoulLine yX8_readSoulLine ∈ xg := xg_in (List.mem_append_left _ (List.mem_of_getElem? (i := 21) rfl)) rfl
set_option maxRecDepth 100000 in
theorem ks_22 : Cond.selects RX7 yX7_addSoul yX7_addSoul ∈ xg := xg_in (List.mem_append_left _ (List.mem_of_getElem? (i := 22) rfl)) rfl
set_option maxRecDepth 100000 in
theorem ks_23 : Cond.selects RX8 yX8_readFirstName yX8_readFirstName ∈ xg := xg_in (List.mem_append_left _ (List.mem_of_getElem? (i := 23) rfl)) rfl
set_option maxRecDepth 100000 in
theorem ks_24 : Cond.selects RX7 yX7_isBorneAtFirst yX7_isBorneAtFirst ∈ xg := xg_in (List.mem_append_left _ (List.mem_of_getElem? (i := 24) rfl)) rfl
set_option maxRecDepth 100000 in
theorem ks_25 : Cond.selects RX7 yX7_isSoul yX7_isSoul ∈ xg := xg_in (List.mem_append_left _ (List.mem_of_getElem? (i := 25) rfl)) rfl
set_option maxRecDepth 100000 in
theorem ks_26 : Cond.selects RX8 yX8_readWish yX8_readWish ∈ xg := xg_in (List.mem_append_left _ (List.mem_of_getElem? (i := 26) rfl)) rfl
set_option maxRecDepth 100000 in
theorem ks_27 : Cond.selects RX8 yX8_readWorth yX8_readWorth ∈ xg := xg_in (List.mem_append_left _ (List.mem_of_getElem? (i := 27) rfl)) rfl
set_option maxRecDepth 100000 in
theorem ks_28 : Cond.selects RX7 yX7_worthOf yX7_worthOf ∈ xg := xg_in (List.mem_append_left _ (List.mem_of_getElem? (i := 28) rfl)) rfl
set_option maxRecDepth 100000 in
theorem ks_29 : Cond.selects RX7 yX7_isName yX7_isName ∈ xg := xg_in (List.mem_append_left _ (List.mem_of_getElem? (i := 29) rfl)) rfl
set_option maxRecDepth 100000 in
theorem ks_3 : Cond.selects RX8 yX8_read yX8_read ∈ xg := xg_in (List.mem_append_left _ (List.mem_of_getElem? (i := 3) rfl)) rfl
set_option maxRecDepth 100000 in
theorem ks_30 : Cond.selects RX8 yX8_readOld yX8_readOld ∈ xg := xg_in (List.mem_append_left _ (List.mem_of_getElem? (i := 30) rfl)) rfl
set_option maxRecDepth 100000 in
theorem ks_31 : Cond.selects RX6 yX6_passSign yX6_passSign ∈ xg := xg_in (List.mem_append_left _ (List.mem_of_getElem? (i := 31) rfl)) rfl
set_option maxRecDepth 100000 in
theorem ks_32 : Cond.selects RX6 yX6_isSign yX6_isSign ∈ xg := xg_in (List.mem_append_left _ (List.mem_of_getElem? (i := 32) rfl)) rfl
set_option maxRecDepth 100000 in
theorem ks_33 : Cond.selects RX7 yX7_copyFrom yX7_copyFrom ∈ xg := xg_in (List.mem_append_left _ (List.mem_of_getElem? (i := 33) rfl)) rfl
set_option maxRecDepth 100000 in
theorem ks_34 : Cond.selects RX2 yX2_begin yX2_begin ∈ xg := xg_in (List.mem_append_left _ (List.mem_of_getElem? (i := 34) rfl)) rfl
set_option maxRecDepth 100000 in
theorem ks_35 : Cond.selects RX2 yX2_give yX2_give ∈ xg := xg_in (List.mem_append_left _ (List.mem_of_getElem? (i := 35) rfl)) rfl
set_option maxRecDepth 100000 in
theorem ks_36 : Cond.selects RX2 yX2_joinQueue yX2_joinQueue ∈ xg := xg_in (List.mem_append_left _ (List.mem_of_getElem? (i := 36) rfl)) rfl
set_option maxRecDepth 100000 in
theorem ks_37 : Cond.selects RX9 yX9_forget yX9_forget ∈ xg := xg_in (List.mem_append_left _ (List.mem_of_getElem? (i := 37) rfl)) rfl
set_option maxRecDepth 100000 in
theorem ks_38 : Cond.selects RX2 yX2_cost yX2_cost ∈ xg := xg_in (List.mem_append_left _ (List.mem_of_getElem? (i := 38) rfl)) rfl
set_option maxRecDepth 100000 in
theorem ks_39 : Cond.selects RX2 yX2_hangedYet yX2_hangedYet ∈ xg := xg_in (List.mem_append_left _ (List.mem_of_getElem? (i := 39) rfl)) rfl
set_option maxRecDepth 100000 in
theorem ks_4 : Cond.selects RX7 yX7_clear yX7_clear ∈ xg := xg_in (List.mem_append_left _ (List.mem_of_getElem? (i := 4) rfl)) rfl
set_option maxRecDepth 100000 in
theorem ks_40 : Cond.selects RX2 yX2_isSour yX2_isSour ∈ xg := xg_in (List.mem_append_left _ (List.mem_of_getElem? (i := 40) rfl)) rfl
set_option maxRecDepth 100000 in
theorem ks_41 : Cond.selects RX2 yX2_freeNames yX2_freeNames ∈ xg := xg_in (List.mem_append_left _ (List.mem_of_getElem? (i := 41) rfl)) rfl
set_option maxRecDepth 100000 in
theorem ks_42 : Cond.selects RX11 yX11_attempt yX11_attempt ∈ xg := xg_in (List.mem_append_left _ (List.mem_of_getElem? (i := 42) rfl)) rfl
set_option maxRecDepth 100000 in
theorem ks_43 : Cond.selects RX2 yX2_whyNot yX2_whyNot ∈ xg := xg_in (List.mem_append_left _ (List.mem_of_getElem? (i := 43) rfl)) rfl
set_option maxRecDepth 100000 in
theorem ks_44 : Cond.selects RX2 yX2_whyNotTake yX2_whyNotTake ∈ xg := xg_in (List.mem_append_left _ (List.mem_of_getElem? (i := 44) rfl)) rfl
set_option maxRecDepth 100000 in
theorem ks_45 : Cond.selects RX2 yX2_isAlive yX2_isAlive ∈ xg := xg_in (List.mem_append_left _ (List.mem_of_getElem? (i := 45) rfl)) rfl
set_option maxRecDepth 100000 in
theorem ks_46 : Cond.selects RX2 yX2_waitAhead yX2_waitAhead ∈ xg := xg_in (List.mem_append_left _ (List.mem_of_getElem? (i := 46) rfl)) rfl
set_option maxRecDepth 100000 in
theorem ks_47 : Cond.selects RX2 yX2_whyNotSwap yX2_whyNotSwap ∈ xg := xg_in (List.mem_append_left _ (List.mem_of_getElem? (i := 47) rfl)) rfl
set_option maxRecDepth 100000 in
theorem ks_48 : Cond.selects RX2 yX2_hasChanged yX2_hasChanged ∈ xg := xg_in (List.mem_append_left _ (List.mem_of_getElem? (i := 48) rfl)) rfl
set_option maxRecDepth 100000 in
theorem ks_49 : Cond.selects RX2 yX2_whyNotSell yX2_whyNotSell ∈ xg := xg_in (List.mem_append_left _ (List.mem_of_getElem? (i := 49) rfl)) rfl
set_option maxRecDepth 100000 in
theorem ks_5 : Cond.selects RX6 yX6_startText yX6_startText ∈ xg := xg_in (List.mem_append_left _ (List.mem_of_getElem? (i := 5) rfl)) rfl
set_option maxRecDepth 100000 in
theorem ks_50 : Cond.selects RX2 yX2_whyNotFlee yX2_whyNotFlee ∈ xg := xg_in (List.mem_append_left _ (List.mem_of_getElem? (i := 50) rfl)) rfl
set_option maxRecDepth 100000 in
theorem ks_51 : Cond.selects RX2 yX2_whyNotPay yX2_whyNotPay ∈ xg := xg_in (List.mem_append_left _ (List.mem_of_getElem? (i := 51) rfl)) rfl
set_option maxRecDepth 100000 in
theorem ks_52 : Cond.selects RX2 yX2_owed yX2_owed ∈ xg := xg_in (List.mem_append_left _ (List.mem_of_getElem? (i := 52) rfl)) rfl
set_option maxRecDepth 100000 in
theorem ks_53 : Cond.selects RX9 yX9_keep yX9_keep ∈ xg := xg_in (List.mem_append_left _ (List.mem_of_getElem? (i := 53) rfl)) rfl
set_option maxRecDepth 100000 in
theorem ks_54 : Cond.selects RX2 yX2_copyFrom yX2_copyFrom ∈ xg := xg_in (List.mem_append_left _ (List.mem_of_getElem? (i := 54) rfl)) rfl
set_option maxRecDepth 100000 in
theorem ks_55 : Cond.selects RX2 yX2_act yX2_act ∈ xg := xg_in (List.mem_append_left _ (List.mem_of_getElem? (i := 55) rfl)) rfl
set_option maxRecDepth 100000 in
theorem ks_56 : Cond.selects RX2 yX2_buyFree yX2_buyFree ∈ xg := xg_in (List.mem_append_left _ (List.mem_of_getElem? (i := 56) rfl)) rfl
set_option maxRecDepth 100000 in
theorem ks_57 : Cond.selects RX2 yX2_leaveQueue yX2_leaveQueue ∈ xg := xg_in (List.mem_append_left _ (List.mem_of_getElem? (i := 57) rfl)) rfl
set_option maxRecDepth 100000 in
theorem ks_58 : Cond.selects RX2 yX2_exchange yX2_exchange ∈ xg := xg_in (List.mem_append_left _ (List.mem_of_getElem? (i := 58) rfl)) rfl
set_option maxRecDepth 100000 in
theorem ks_59 : Cond.selects RX2 yX2_handOver yX2_handOver ∈ xg := xg_in (List.mem_append_left _ (List.mem_of_getElem? (i := 59) rfl)) rfl
set_option maxRecDepth 100000 in
theorem ks_6 : Cond.selects RX6 yX6_advance yX6_advance ∈ xg := xg_in (List.mem_append_left _ (List.mem_of_getElem? (i := 6) rfl)) rfl
set_option maxRecDepth 100000 in
theorem ks_60 : Cond.selects RX2 yX2_runAway yX2_runAway ∈ xg := xg_in (List.mem_append_left _ (List.mem_of_getElem? (i := 60) rfl)) rfl
set_option maxRecDepth 100000 in
theorem ks_61 : Cond.selects RX2 yX2_loseName yX2_loseName ∈ xg := xg_in (List.mem_append_left _ (List.mem_of_getElem? (i := 61) rfl)) rfl
set_option maxRecDepth 100000 in
theorem ks_62 : Cond.selects RX2 yX2_payOff yX2_payOff ∈ xg := xg_in (List.mem_append_left _ (List.mem_of_getElem? (i := 62) rfl)) rfl
set_option maxRecDepth 100000 in
theorem ks_63 : Cond.selects RX2 yX2_passMondays yX2_passMondays ∈ xg := xg_in (List.mem_append_left _ (List.mem_of_getElem? (i := 63) rfl)) rfl
set_option maxRecDepth 100000 in
theorem ks_64 : Cond.selects RX2 yX2_endMonday yX2_endMonday ∈ xg := xg_in (List.mem_append_left _ (List.mem_of_getElem? (i := 64) rfl)) rfl
set_option maxRecDepth 100000 in
theorem ks_65 : Cond.selects RX7 yX7_isFeast yX7_isFeast ∈ xg := xg_in (List.mem_append_left _ (List.mem_of_getElem? (i := 65) rfl)) rfl
set_option maxRecDepth 100000 in
theorem ks_66 : Cond.selects RX2 yX2_feast yX2_feast ∈ xg := xg_in (List.mem_append_left _ (List.mem_of_getElem? (i := 66) rfl)) rfl
set_option maxRecDepth 100000 in
theorem ks_67 : Cond.selects RX2 yX2_perish yX2_perish ∈ xg := xg_in (List.mem_append_left _ (List.mem_of_getElem? (i := 67) rfl)) rfl
set_option maxRecDepth 100000 in
theorem ks_68 : Cond.selects RX11 yX11_areTwo yX11_areTwo ∈ xg := xg_in (List.mem_append_left _ (List.mem_of_getElem? (i := 68) rfl)) rfl
set_option maxRecDepth 100000 in
theorem ks_69 : Cond.selects RX2 yX2_drawLot yX2_drawLot ∈ xg := xg_in (List.mem_append_left _ (List.mem_of_getElem? (i := 69) rfl)) rfl
set_option maxRecDepth 100000 in
theorem ks_7 : Cond.selects RX8 yX8_readLine yX8_readLine ∈ xg := xg_in (List.mem_append_left _ (List.mem_of_getElem? (i := 7) rfl)) rfl
set_option maxRecDepth 100000 in
theorem ks_70 : Cond.selects RX0 yX0_next yX0_next ∈ xg := xg_in (List.mem_append_left _ (List.mem_of_getElem? (i := 70) rfl)) rfl
set_option maxRecDepth 100000 in
theorem ks_71 : Cond.selects RX9 yX9_takeBack yX9_takeBack ∈ xg := xg_in (List.mem_append_left _ (List.mem_of_getElem? (i := 71) rfl)) rfl
set_option maxRecDepth 100000 in
theorem ks_72 : Cond.selects RX2 yX2_hasGone yX2_hasGone ∈ xg := xg_in (List.mem_append_left _ (List.mem_of_getElem? (i := 72) rfl)) rfl
set_option maxRecDepth 100000 in
theorem ks_73 : Cond.selects RX2 yX2_calledThen yX2_calledThen ∈ xg := xg_in (List.mem_append_left _ (List.mem_of_getElem? (i := 73) rfl)) rfl
set_option maxRecDepth 100000 in
theorem ks_74 : Cond.selects RX2 yX2_holderThen yX2_holderThen ∈ xg := xg_in (List.mem_append_left _ (List.mem_of_getElem? (i := 74) rfl)) rfl
set_option maxRecDepth 100000 in
theorem ks_75 : Cond.selects RX2 yX2_timesCalled yX2_timesCalled ∈ xg := xg_in (List.mem_append_left _ (List.mem_of_getElem? (i := 75) rfl)) rfl
set_option maxRecDepth 100000 in
theorem ks_76 : Cond.selects RX10 yX10_findMondays yX10_findMondays ∈ xg := xg_in (List.mem_append_left _ (List.mem_of_getElem? (i := 76) rfl)) rfl
set_option maxRecDepth 100000 in
theorem ks_77 : Cond.selects RX10 yX10_point yX10_point ∈ xg := xg_in (List.mem_append_left _ (List.mem_of_getElem? (i := 77) rfl)) rfl
set_option maxRecDepth 100000 in
theorem ks_78 : Cond.selects RX10 yX10_mondaysFor yX10_mondaysFor ∈ xg := xg_in (List.mem_append_left _ (List.mem_of_getElem? (i := 78) rfl)) rfl
set_option maxRecDepth 100000 in
theorem ks_79 : Cond.selects RX10 yX10_pair yX10_pair ∈ xg := xg_in (List.mem_append_left _ (List.mem_of_getElem? (i := 79) rfl)) rfl
set_option maxRecDepth 100000 in
theorem ks_8 : Cond.selects RX6 yX6_isWord yX6_isWord ∈ xg := xg_in (List.mem_append_left _ (List.mem_of_getElem? (i := 8) rfl)) rfl
set_option maxRecDepth 100000 in
theorem ks_80 : Cond.selects RX10 yX10_findSwaps yX10_findSwaps ∈ xg := xg_in (List.mem_append_left _ (List.mem_of_getElem? (i := 80) rfl)) rfl
set_option maxRecDepth 100000 in
theorem ks_81 : Cond.selects RX10 yX10_isFirstOfRing yX10_isFirstOfRing ∈ xg := xg_in (List.mem_append_left _ (List.mem_of_getElem? (i := 81) rfl)) rfl
set_option maxRecDepth 100000 in
theorem ks_82 : Cond.selects RX10 yX10_partnerOf yX10_partnerOf ∈ xg := xg_in (List.mem_append_left _ (List.mem_of_getElem? (i := 82) rfl)) rfl
set_option maxRecDepth 100000 in
theorem ks_83 : Cond.selects RX3 yX3_findBidder yX3_findBidder ∈ xg := xg_in (List.mem_append_left _ (List.mem_of_getElem? (i := 83) rfl)) rfl
set_option maxRecDepth 100000 in
theorem ks_84 : Cond.selects RX11 yX11_isLedger yX11_isLedger ∈ xg := xg_in (List.mem_append_left _ (List.mem_of_getElem? (i := 84) rfl)) rfl
set_option maxRecDepth 100000 in
theorem ks_85 : Cond.selects RX6 yX6_byteAt yX6_byteAt ∈ xg := xg_in (List.mem_append_left _ (List.mem_of_getElem? (i := 85) rfl)) rfl
set_option maxRecDepth 100000 in
theorem ks_86 : Cond.selects RX11 yX11_soulsInLedger yX11_soulsInLedger ∈ xg := xg_in (List.mem_append_left _ (List.mem_of_getElem? (i := 86) rfl)) rfl
set_option maxRecDepth 100000 in
theorem ks_87 : Cond.selects RX2 yX2_hasVotes yX2_hasVotes ∈ xg := xg_in (List.mem_append_left _ (List.mem_of_getElem? (i := 87) rfl)) rfl
set_option maxRecDepth 100000 in
theorem ks_88 : Cond.selects RX2 yX2_doesWait yX2_doesWait ∈ xg := xg_in (List.mem_append_left _ (List.mem_of_getElem? (i := 88) rfl)) rfl
set_option maxRecDepth 100000 in
theorem ks_89 : Cond.selects RX3 yX3_findLeast yX3_findLeast ∈ xg := xg_in (List.mem_append_left _ (List.mem_of_getElem? (i := 89) rfl)) rfl
set_option maxRecDepth 100000 in
theorem ks_9 : Cond.selects RX8 yX8_readNameLine yX8_readNameLine ∈ xg := xg_in (List.mem_append_left _ (List.mem_of_getElem? (i := 9) rfl)) rfl
set_option maxRecDepth 100000 in
theorem ks_90 : Cond.selects RX3 yX3_coinFor yX3_coinFor ∈ xg := xg_in (List.mem_append_left _ (List.mem_of_getElem? (i := 90) rfl)) rfl
set_option maxRecDepth 100000 in
theorem ks_91 : Cond.selects RX2 yX2_liveDrawn yX2_liveDrawn ∈ xg := xg_in (List.mem_append_left _ (List.mem_of_getElem? (i := 91) rfl)) rfl
set_option maxRecDepth 100000 in
theorem ks_92 : Cond.selects RX2 yX2_actByDraw yX2_actByDraw ∈ xg := xg_in (List.mem_append_left _ (List.mem_of_getElem? (i := 92) rfl)) rfl
set_option maxRecDepth 100000 in
theorem ks_93 : Cond.selects RX2 yX2_actIfCan yX2_actIfCan ∈ xg := xg_in (List.mem_append_left _ (List.mem_of_getElem? (i := 93) rfl)) rfl
set_option maxRecDepth 100000 in
theorem ks_94 : Cond.selects RX2 yX2_dieByDraw yX2_dieByDraw ∈ xg := xg_in (List.mem_append_left _ (List.mem_of_getElem? (i := 94) rfl)) rfl
set_option maxRecDepth 100000 in
theorem ks_95 : Cond.selects RX4 yX4_read yX4_read ∈ xg := xg_in (List.mem_append_left _ (List.mem_of_getElem? (i := 95) rfl)) rfl
set_option maxRecDepth 100000 in
theorem ks_96 : Cond.selects RX4 yX4_readLine yX4_readLine ∈ xg := xg_in (List.mem_append_left _ (List.mem_of_getElem? (i := 96) rfl)) rfl
set_option maxRecDepth 100000 in
theorem ks_97 : Cond.selects RX4 yX4_setSort yX4_setSort ∈ xg := xg_in (List.mem_append_left _ (List.mem_of_getElem? (i := 97) rfl)) rfl
set_option maxRecDepth 100000 in
theorem ks_98 : Cond.selects RX4 yX4_readDeed yX4_readDeed ∈ xg := xg_in (List.mem_append_left _ (List.mem_of_getElem? (i := 98) rfl)) rfl
set_option maxRecDepth 100000 in
theorem ks_99 : Cond.selects RX4 yX4_judge yX4_judge ∈ xg := xg_in (List.mem_append_left _ (List.mem_of_getElem? (i := 99) rfl)) rfl
set_option maxRecDepth 100000 in
theorem kw_1 : Cond.initialized RX11 ∈ xg := xg_in (List.mem_append_right _ (List.mem_append_left _ (List.mem_of_getElem? (i := 1) rfl))) rfl
set_option maxRecDepth 100000 in
theorem kw_10 : Cond.initialized RX9 ∈ xg := xg_in (List.mem_append_right _ (List.mem_append_left _ (List.mem_of_getElem? (i := 10) rfl))) rfl
set_option maxRecDepth 100000 in
theorem kw_100 : Cond.fieldLink RX6 48 RX6 "at" "I" ∈ xg := xg_in (List.mem_append_right _ (List.mem_append_left _ (List.mem_of_getElem? (i := 100) rfl))) rfl
set_option maxRecDepth 100000 in
theorem kw_1006 : Cond.instanceMethod yX10_findSwaps ∈ xg := xg_in (List.mem_append_right _ (List.mem_append_right _ (List.mem_append_right _ (List.mem_append_right _ (List.mem_append_right _ (List.mem_append_left _ (List.mem_of_getElem? (i := 46) rfl))))))) rfl
set_option maxRecDepth 100000 in
theorem kw_1007 : Cond.code yX10_findSwaps cX10_findSwaps 3 (some .int) ∈ xg := xg_in (List.mem_append_right _ (List.mem_append_right _ (List.mem_append_right _ (List.mem_append_right _ (List.mem_append_right _ (List.mem_append_left _ (List.mem_of_getElem? (i := 47) rfl))))))) rfl
set_option maxRecDepth 100000 in
theorem kw_1008 : Cond.methodLink RX10 53 yX10_isFirstOfRing ∈ xg := xg_in (List.mem_append_right _ (List.mem_append_right _ (List.mem_append_right _ (List.mem_append_right _ (List.mem_append_right _ (List.mem_append_left _ (List.mem_of_getElem? (i := 48) rfl))))))) rfl
set_option maxRecDepth 100000 in
theorem kw_1010 : Cond.instanceMethod yX10_isFirstOfRing ∈ xg := xg_in (List.mem_append_right _ (List.mem_append_right _ (List.mem_append_right _ (List.mem_append_right _ (List.mem_append_right _ (List.mem_append_left _ (List.mem_of_getElem? (i := 50) rfl))))))) rfl
set_option maxRecDepth 100000 in
theorem kw_1011 : Cond.code yX10_isFirstOfRing cX10_isFirstOfRing 4 (some .boolean) ∈ xg := xg_in (List.mem_append_right _ (List.mem_append_right _ (List.mem_append_right _ (List.mem_append_right _ (List.mem_append_right _ (List.mem_append_left _ (List.mem_of_getElem? (i := 51) rfl))))))) rfl
set_option maxRecDepth 100000 in
theorem kw_1018 : Cond.instanceMethod yX10_partnerOf ∈ xg := xg_in (List.mem_append_right _ (List.mem_append_right _ (List.mem_append_right _ (List.mem_append_right _ (List.mem_append_right _ (List.mem_append_left _ (List.mem_of_getElem? (i := 58) rfl))))))) rfl
set_option maxRecDepth 100000 in
theorem kw_1019 : Cond.code yX10_partnerOf cX10_partnerOf 2 (some .int) ∈ xg := xg_in (List.mem_append_right _ (List.mem_append_right _ (List.mem_append_right _ (List.mem_append_right _ (List.mem_append_right _ (List.mem_append_left _ (List.mem_of_getElem? (i := 59) rfl))))))) rfl
set_option maxRecDepth 100000 in
theorem kw_1026 : Cond.instanceMethod yX3_findBidder ∈ xg := xg_in (List.mem_append_right _ (List.mem_append_right _ (List.mem_append_right _ (List.mem_append_right _ (List.mem_append_right _ (List.mem_append_left _ (List.mem_of_getElem? (i := 66) rfl))))))) rfl
set_option maxRecDepth 100000 in
theorem kw_1027 : Cond.code yX3_findBidder cX3_findBidder 8 (some .int) ∈ xg := xg_in (List.mem_append_right _ (List.mem_append_right _ (List.mem_append_right _ (List.mem_append_right _ (List.mem_append_right _ (List.mem_append_left _ (List.mem_of_getElem? (i := 67) rfl))))))) rfl
set_option maxRecDepth 100000 in
theorem kw_1029 : Cond.methodLink RX3 44 Lib.Math.min.name ∈ xg := xg_in (List.mem_append_right _ (List.mem_append_right _ (List.mem_append_right _ (List.mem_append_right _ (List.mem_append_right _ (List.mem_append_left _ (List.mem_of_getElem? (i := 69) rfl))))))) rfl
set_option maxRecDepth 100000 in
theorem kw_1030 : Cond.methodLink RX3 49 Lib.Math.max.name ∈ xg := xg_in (List.mem_append_right _ (List.mem_append_right _ (List.mem_append_right _ (List.mem_append_right _ (List.mem_append_right _ (List.mem_append_left _ (List.mem_of_getElem? (i := 70) rfl))))))) rfl
set_option maxRecDepth 100000 in
theorem kw_104 : Cond.fieldLink RX6 60 RX6 "kind" "I" ∈ xg := xg_in (List.mem_append_right _ (List.mem_append_left _ (List.mem_of_getElem? (i := 104) rfl))) rfl
set_option maxRecDepth 100000 in
theorem kw_1043 : Cond.methodLink RX11 293 yX11_isLedger ∈ xg := xg_in (List.mem_append_right _ (List.mem_append_right _ (List.mem_append_right _ (List.mem_append_right _ (List.mem_append_right _ (List.mem_append_left _ (List.mem_of_getElem? (i := 83) rfl))))))) rfl
set_option maxRecDepth 100000 in
theorem kw_1045 : Cond.instanceMethod yX11_isLedger ∈ xg := xg_in (List.mem_append_right _ (List.mem_append_right _ (List.mem_append_right _ (List.mem_append_right _ (List.mem_append_right _ (List.mem_append_left _ (List.mem_of_getElem? (i := 85) rfl))))))) rfl
set_option maxRecDepth 100000 in
theorem kw_1046 : Cond.code yX11_isLedger cX11_isLedger 4 (some .boolean) ∈ xg := xg_in (List.mem_append_right _ (List.mem_append_right _ (List.mem_append_right _ (List.mem_append_right _ (List.mem_append_right _ (List.mem_append_left _ (List.mem_of_getElem? (i := 86) rfl))))))) rfl
set_option maxRecDepth 100000 in
theorem kw_1049 : Cond.instanceMethod yX6_byteAt ∈ xg := xg_in (List.mem_append_right _ (List.mem_append_right _ (List.mem_append_right _ (List.mem_append_right _ (List.mem_append_right _ (List.mem_append_left _ (List.mem_of_getElem? (i := 89) rfl))))))) rfl
set_option maxRecDepth 100000 in
theorem kw_105 : Cond.fieldLink RX6 63 RX6 "place" "I" ∈ xg := xg_in (List.mem_append_right _ (List.mem_append_left _ (List.mem_of_getElem? (i := 105) rfl))) rfl
set_option maxRecDepth 100000 in
theorem kw_1050 : Cond.code yX6_byteAt cX6_byteAt 2 (some .int) ∈ xg := xg_in (List.mem_append_right _ (List.mem_append_right _ (List.mem_append_right _ (List.mem_append_right _ (List.mem_append_right _ (List.mem_append_left _ (List.mem_of_getElem? (i := 90) rfl))))))) rfl
set_option maxRecDepth 100000 in
theorem kw_1051 : Cond.methodLink RX11 296 yX11_soulsInLedger ∈ xg := xg_in (List.mem_append_right _ (List.mem_append_right _ (List.mem_append_right _ (List.mem_append_right _ (List.mem_append_right _ (List.mem_append_left _ (List.mem_of_getElem? (i := 91) rfl))))))) rfl
set_option maxRecDepth 100000 in
theorem kw_1053 : Cond.instanceMethod yX11_soulsInLedger ∈ xg := xg_in (List.mem_append_right _ (List.mem_append_right _ (List.mem_append_right _ (List.mem_append_right _ (List.mem_append_right _ (List.mem_append_left _ (List.mem_of_getElem? (i := 93) rfl))))))) rfl
set_option maxRecDepth 100000 in
theorem kw_1054 : Cond.code yX11_soulsInLedger cX11_soulsInLedger 7 (some .int) ∈ xg := xg_in (List.mem_append_right _ (List.mem_append_right _ (List.mem_append_right _ (List.mem_append_right _ (List.mem_append_right _ (List.mem_append_left _ (List.mem_of_getElem? (i := 94) rfl))))))) rfl
set_option maxRecDepth 100000 in
theorem kw_1061 : Cond.instanceMethod yX2_hasVotes ∈ xg := xg_in (List.mem_append_right _ (List.mem_append_right _ (List.mem_append_right _ (List.mem_append_right _ (List.mem_append_right _ (List.mem_append_left _ (List.mem_of_getElem? (i := 101) rfl))))))) rfl
set_option maxRecDepth 100000 in
theorem kw_1062 : Cond.code yX2_hasVotes cX2_hasVotes 6 (some .boolean) ∈ xg := xg_in (List.mem_append_right _ (List.mem_append_right _ (List.mem_append_right _ (List.mem_append_right _ (List.mem_append_right _ (List.mem_append_left _ (List.mem_of_getElem? (i := 102) rfl))))))) rfl
set_option maxRecDepth 100000 in
theorem kw_1063 : Cond.methodLink RX2 116 yX2_doesWait ∈ xg := xg_in (List.mem_append_right _ (List.mem_append_right _ (List.mem_append_right _ (List.mem_append_right _ (List.mem_append_right _ (List.mem_append_left _ (List.mem_of_getElem? (i := 103) rfl))))))) rfl
set_option maxRecDepth 100000 in
theorem kw_1065 : Cond.instanceMethod yX2_doesWait ∈ xg := xg_in (List.mem_append_right _ (List.mem_append_right _ (List.mem_append_right _ (List.mem_append_right _ (List.mem_append_right _ (List.mem_append_left _ (List.mem_of_getElem? (i := 105) rfl))))))) rfl
set_option maxRecDepth 100000 in
theorem kw_1066 : Cond.code yX2_doesWait cX2_doesWait 2 (some .boolean) ∈ xg := xg_in (List.mem_append_right _ (List.mem_append_right _ (List.mem_append_right _ (List.mem_append_right _ (List.mem_append_right _ (List.mem_append_left _ (List.mem_of_getElem? (i := 106) rfl))))))) rfl
set_option maxRecDepth 100000 in
theorem kw_1071 : Cond.methodLink RX11 302 yJ6_bitCount_0f7a4 ∈ xg := xg_in (List.mem_append_right _ (List.mem_append_right _ (List.mem_append_right _ (List.mem_append_right _ (List.mem_append_right _ (List.mem_append_left _ (List.mem_of_getElem? (i := 111) rfl))))))) rfl
set_option maxRecDepth 100000 in
theorem kw_1072 : Cond.static yJ6_bitCount_0f7a4 ∈ xg := xg_in (List.mem_append_right _ (List.mem_append_right _ (List.mem_append_right _ (List.mem_append_right _ (List.mem_append_right _ (List.mem_append_left _ (List.mem_of_getElem? (i := 112) rfl))))))) rfl
set_option maxRecDepth 100000 in
theorem kw_1073 : Cond.code yJ6_bitCount_0f7a4 cJ6_bitCount_0f7a4 1 (some .int) ∈ xg := xg_in (List.mem_append_right _ (List.mem_append_right _ (List.mem_append_right _ (List.mem_append_right _ (List.mem_append_right _ (List.mem_append_left _ (List.mem_of_getElem? (i := 113) rfl))))))) rfl
set_option maxRecDepth 100000 in
theorem kw_1074 : Cond.constant RJ6 265 (1431655765) ∈ xg := xg_in (List.mem_append_right _ (List.mem_append_right _ (List.mem_append_right _ (List.mem_append_right _ (List.mem_append_right _ (List.mem_append_left _ (List.mem_of_getElem? (i := 114) rfl))))))) rfl
set_option maxRecDepth 100000 in
theorem kw_1075 : Cond.constant RJ6 266 (858993459) ∈ xg := xg_in (List.mem_append_right _ (List.mem_append_right _ (List.mem_append_right _ (List.mem_append_right _ (List.mem_append_right _ (List.mem_append_left _ (List.mem_of_getElem? (i := 115) rfl))))))) rfl
set_option maxRecDepth 100000 in
theorem kw_1076 : Cond.constant RJ6 267 (252645135) ∈ xg := xg_in (List.mem_append_right _ (List.mem_append_right _ (List.mem_append_right _ (List.mem_append_right _ (List.mem_append_right _ (List.mem_append_left _ (List.mem_of_getElem? (i := 116) rfl))))))) rfl
set_option maxRecDepth 100000 in
theorem kw_108 : Cond.fieldLink RX6 69 RX6 "word" "J" ∈ xg := xg_in (List.mem_append_right _ (List.mem_append_left _ (List.mem_of_getElem? (i := 108) rfl))) rfl
set_option maxRecDepth 100000 in
theorem kw_1084 : Cond.instanceMethod yX3_findLeast ∈ xg := xg_in (List.mem_append_right _ (List.mem_append_right _ (List.mem_append_right _ (List.mem_append_right _ (List.mem_append_right _ (List.mem_append_left _ (List.mem_of_getElem? (i := 124) rfl))))))) rfl
set_option maxRecDepth 100000 in
theorem kw_1085 : Cond.code yX3_findLeast cX3_findLeast 5 (some .int) ∈ xg := xg_in (List.mem_append_right _ (List.mem_append_right _ (List.mem_append_right _ (List.mem_append_right _ (List.mem_append_right _ (List.mem_append_left _ (List.mem_of_getElem? (i := 125) rfl))))))) rfl
set_option maxRecDepth 100000 in
theorem kw_1086 : Cond.methodLink RX3 55 yX3_coinFor ∈ xg := xg_in (List.mem_append_right _ (List.mem_append_right _ (List.mem_append_right _ (List.mem_append_right _ (List.mem_append_right _ (List.mem_append_left _ (List.mem_of_getElem? (i := 126) rfl))))))) rfl
set_option maxRecDepth 100000 in
theorem kw_1088 : Cond.instanceMethod yX3_coinFor ∈ xg := xg_in (List.mem_append_right _ (List.mem_append_right _ (List.mem_append_right _ (List.mem_append_right _ (List.mem_append_right _ (List.mem_append_left _ (List.mem_of_getElem? (i := 128) rfl))))))) rfl
set_option maxRecDepth 100000 in
theorem kw_1089 : Cond.code yX3_coinFor cX3_coinFor 4 (some .int) ∈ xg := xg_in (List.mem_append_right _ (List.mem_append_right _ (List.mem_append_right _ (List.mem_append_right _ (List.mem_append_right _ (List.mem_append_left _ (List.mem_of_getElem? (i := 129) rfl))))))) rfl
set_option maxRecDepth 100000 in
theorem kw_11 : Cond.initialized RX4 ∈ xg := xg_in (List.mem_append_right _ (List.mem_append_left _ (List.mem_of_getElem? (i := 11) rfl))) rfl
set_option maxRecDepth 100000 in
theorem kw_110 : Cond.fieldLink RX6 73 RX6 "number" "I" ∈ xg := xg_in (List.mem_append_right _ (List.mem_append_left _ (List.mem_of_getElem? (i := 110) rfl))) rfl
set_option maxRecDepth 100000 in
theorem kw_111 : Cond.fieldLink RX6 66 RX6 "sign" "I" ∈ xg := xg_in (List.mem_append_right _ (List.mem_append_left _ (List.mem_of_getElem? (i := 111) rfl))) rfl
set_option maxRecDepth 100000 in
theorem kw_1112 : Cond.instanceMethod yX2_liveDrawn ∈ xg := xg_in (List.mem_append_right _ (List.mem_append_right _ (List.mem_append_right _ (List.mem_append_right _ (List.mem_append_right _ (List.mem_append_left _ (List.mem_of_getElem? (i := 152) rfl))))))) rfl
set_option maxRecDepth 100000 in
theorem kw_1113 : Cond.code yX2_liveDrawn cX2_liveDrawn 5 (some .int) ∈ xg := xg_in (List.mem_append_right _ (List.mem_append_right _ (List.mem_append_right _ (List.mem_append_right _ (List.mem_append_right _ (List.mem_append_left _ (List.mem_of_getElem? (i := 153) rfl))))))) rfl
set_option maxRecDepth 100000 in
theorem kw_1114 : Cond.methodLink RX2 197 yX2_actByDraw ∈ xg := xg_in (List.mem_append_right _ (List.mem_append_right _ (List.mem_append_right _ (List.mem_append_right _ (List.mem_append_right _ (List.mem_append_left _ (List.mem_of_getElem? (i := 154) rfl))))))) rfl
set_option maxRecDepth 100000 in
theorem kw_1116 : Cond.instanceMethod yX2_actByDraw ∈ xg := xg_in (List.mem_append_right _ (List.mem_append_right _ (List.mem_append_right _ (List.mem_append_right _ (List.mem_append_right _ (List.mem_append_left _ (List.mem_of_getElem? (i := 156) rfl))))))) rfl
set_option maxRecDepth 100000 in
theorem kw_1117 : Cond.code yX2_actByDraw cX2_actByDraw 3 none ∈ xg := xg_in (List.mem_append_right _ (List.mem_append_right _ (List.mem_append_right _ (List.mem_append_right _ (List.mem_append_right _ (List.mem_append_left _ (List.mem_of_getElem? (i := 157) rfl))))))) rfl
set_option maxRecDepth 100000 in
theorem kw_1118 : Cond.methodLink RX2 201 yX2_actIfCan ∈ xg := xg_in (List.mem_append_right _ (List.mem_append_right _ (List.mem_append_right _ (List.mem_append_right _ (List.mem_append_right _ (List.mem_append_left _ (List.mem_of_getElem? (i := 158) rfl))))))) rfl
set_option maxRecDepth 100000 in
theorem kw_1120 : Cond.instanceMethod yX2_actIfCan ∈ xg := xg_in (List.mem_append_right _ (List.mem_append_right _ (List.mem_append_right _ (List.mem_append_right _ (List.mem_append_right _ (List.mem_append_left _ (List.mem_of_getElem? (i := 160) rfl))))))) rfl
set_option maxRecDepth 100000 in
theorem kw_1121 : Cond.code yX2_actIfCan cX2_actIfCan 4 none ∈ xg := xg_in (List.mem_append_right _ (List.mem_append_right _ (List.mem_append_right _ (List.mem_append_right _ (List.mem_append_right _ (List.mem_append_left _ (List.mem_of_getElem? (i := 161) rfl))))))) rfl
set_option maxRecDepth 100000 in
theorem kw_1122 : Cond.methodLink RX2 208 yX2_whyNot ∈ xg := xg_in (List.mem_append_right _ (List.mem_append_right _ (List.mem_append_right _ (List.mem_append_right _ (List.mem_append_right _ (List.mem_append_left _ (List.mem_of_getElem? (i := 162) rfl))))))) rfl
set_option maxRecDepth 100000 in
theorem kw_1123 : Cond.methodLink RX2 212 yX2_act ∈ xg := xg_in (List.mem_append_right _ (List.mem_append_right _ (List.mem_append_right _ (List.mem_append_right _ (List.mem_append_right _ (List.mem_append_left _ (List.mem_of_getElem? (i := 163) rfl))))))) rfl
set_option maxRecDepth 100000 in
theorem kw_1124 : Cond.methodLink RX2 205 yX2_dieByDraw ∈ xg := xg_in (List.mem_append_right _ (List.mem_append_right _ (List.mem_append_right _ (List.mem_append_right _ (List.mem_append_right _ (List.mem_append_left _ (List.mem_of_getElem? (i := 164) rfl))))))) rfl
set_option maxRecDepth 100000 in
theorem kw_1126 : Cond.instanceMethod yX2_dieByDraw ∈ xg := xg_in (List.mem_append_right _ (List.mem_append_right _ (List.mem_append_right _ (List.mem_append_right _ (List.mem_append_right _ (List.mem_append_left _ (List.mem_of_getElem? (i := 166) rfl))))))) rfl
set_option maxRecDepth 100000 in
theorem kw_1127 : Cond.code yX2_dieByDraw cX2_dieByDraw 3 none ∈ xg := xg_in (List.mem_append_right _ (List.mem_append_right _ (List.mem_append_right _ (List.mem_append_right _ (List.mem_append_right _ (List.mem_append_left _ (List.mem_of_getElem? (i := 167) rfl))))))) rfl
set_option maxRecDepth 100000 in
theorem kw_1139 : Cond.instanceMethod yX4_read ∈ xg := xg_in (List.mem_append_right _ (List.mem_append_right _ (List.mem_append_right _ (List.mem_append_right _ (List.mem_append_right _ (List.mem_append_left _ (List.mem_of_getElem? (i := 179) rfl))))))) rfl
set_option maxRecDepth 100000 in
theorem kw_1140 : Cond.code yX4_read cX4_read 2 (some .boolean) ∈ xg := xg_in (List.mem_append_right _ (List.mem_append_right _ (List.mem_append_right _ (List.mem_append_right _ (List.mem_append_right _ (List.mem_append_left _ (List.mem_of_getElem? (i := 180) rfl))))))) rfl
set_option maxRecDepth 100000 in
theorem kw_1142 : Cond.methodLink RX4 42 yX4_readLine ∈ xg := xg_in (List.mem_append_right _ (List.mem_append_right _ (List.mem_append_right _ (List.mem_append_right _ (List.mem_append_right _ (List.mem_append_left _ (List.mem_of_getElem? (i := 182) rfl))))))) rfl
set_option maxRecDepth 100000 in
theorem kw_1144 : Cond.instanceMethod yX4_readLine ∈ xg := xg_in (List.mem_append_right _ (List.mem_append_right _ (List.mem_append_right _ (List.mem_append_right _ (List.mem_append_right _ (List.mem_append_left _ (List.mem_of_getElem? (i := 184) rfl))))))) rfl
set_option maxRecDepth 100000 in
theorem kw_1145 : Cond.code yX4_readLine cX4_readLine 3 (some .boolean) ∈ xg := xg_in (List.mem_append_right _ (List.mem_append_right _ (List.mem_append_right _ (List.mem_append_right _ (List.mem_append_right _ (List.mem_append_left _ (List.mem_of_getElem? (i := 185) rfl))))))) rfl
set_option maxRecDepth 100000 in
theorem kw_1152 : Cond.methodLink RX4 79 yX4_setSort ∈ xg := xg_in (List.mem_append_right _ (List.mem_append_right _ (List.mem_append_right _ (List.mem_append_right _ (List.mem_append_right _ (List.mem_append_left _ (List.mem_of_getElem? (i := 192) rfl))))))) rfl
set_option maxRecDepth 100000 in
theorem kw_1154 : Cond.instanceMethod yX4_setSort ∈ xg := xg_in (List.mem_append_right _ (List.mem_append_right _ (List.mem_append_right _ (List.mem_append_right _ (List.mem_append_right _ (List.mem_append_left _ (List.mem_of_getElem? (i := 194) rfl))))))) rfl
set_option maxRecDepth 100000 in
theorem kw_1155 : Cond.code yX4_setSort cX4_setSort 2 (some .boolean) ∈ xg := xg_in (List.mem_append_right _ (List.mem_append_right _ (List.mem_append_right _ (List.mem_append_right _ (List.mem_append_right _ (List.mem_append_left _ (List.mem_of_getElem? (i := 195) rfl))))))) rfl
set_option maxRecDepth 100000 in
theorem kw_1157 : Cond.methodLink RX4 86 yX4_readDeed ∈ xg := xg_in (List.mem_append_right _ (List.mem_append_right _ (List.mem_append_right _ (List.mem_append_right _ (List.mem_append_right _ (List.mem_append_left _ (List.mem_of_getElem? (i := 197) rfl))))))) rfl
set_option maxRecDepth 100000 in
theorem kw_1159 : Cond.instanceMethod yX4_readDeed ∈ xg := xg_in (List.mem_append_right _ (List.mem_append_right _ (List.mem_append_right _ (List.mem_append_right _ (List.mem_append_right _ (List.mem_append_left _ (List.mem_of_getElem? (i := 199) rfl))))))) rfl
set_option maxRecDepth 100000 in
theorem kw_116 : Cond.fieldLink RX6 88 RX6 "got" "I" ∈ xg := xg_in (List.mem_append_right _ (List.mem_append_left _ (List.mem_of_getElem? (i := 116) rfl))) rfl
set_option maxRecDepth 100000 in
theorem kw_1160 : Cond.code yX4_readDeed cX4_readDeed 1 (some .boolean) ∈ xg := xg_in (List.mem_append_right _ (List.mem_append_right _ (List.mem_append_right _ (List.mem_append_right _ (List.mem_append_right _ (List.mem_append_left _ (List.mem_of_getElem? (i := 200) rfl))))))) rfl
set_option maxRecDepth 100000 in
theorem kw_1173 : Cond.instanceMethod yX4_judge ∈ xg := xg_in (List.mem_append_right _ (List.mem_append_right _ (List.mem_append_right _ (List.mem_append_right _ (List.mem_append_right _ (List.mem_append_left _ (List.mem_of_getElem? (i := 213) rfl))))))) rfl
set_option maxRecDepth 100000 in
theorem kw_1174 : Cond.code yX4_judge cX4_judge 4 (some .int) ∈ xg := xg_in (List.mem_append_right _ (List.mem_append_right _ (List.mem_append_right _ (List.mem_append_right _ (List.mem_append_right _ (List.mem_append_left _ (List.mem_of_getElem? (i := 214) rfl))))))) rfl
set_option maxRecDepth 100000 in
theorem kw_118 : Cond.fieldLink RX6 51 RX6 "faultKind" "I" ∈ xg := xg_in (List.mem_append_right _ (List.mem_append_left _ (List.mem_of_getElem? (i := 118) rfl))) rfl
set_option maxRecDepth 100000 in
theorem kw_1187 : Cond.instanceMethod yX5_read ∈ xg := xg_in (List.mem_append_right _ (List.mem_append_right _ (List.mem_append_right _ (List.mem_append_right _ (List.mem_append_right _ (List.mem_append_left _ (List.mem_of_getElem? (i := 227) rfl))))))) rfl
set_option maxRecDepth 100000 in
theorem kw_1188 : Cond.code yX5_read cX5_read 1 (some .boolean) ∈ xg := xg_in (List.mem_append_right _ (List.mem_append_right _ (List.mem_append_right _ (List.mem_append_right _ (List.mem_append_right _ (List.mem_append_left _ (List.mem_of_getElem? (i := 228) rfl))))))) rfl
set_option maxRecDepth 100000 in
theorem kw_1190 : Cond.methodLink RX5 49 yX5_readCond ∈ xg := xg_in (List.mem_append_right _ (List.mem_append_right _ (List.mem_append_right _ (List.mem_append_right _ (List.mem_append_right _ (List.mem_append_left _ (List.mem_of_getElem? (i := 230) rfl))))))) rfl
set_option maxRecDepth 100000 in
theorem kw_1192 : Cond.instanceMethod yX5_readCond ∈ xg := xg_in (List.mem_append_right _ (List.mem_append_right _ (List.mem_append_right _ (List.mem_append_right _ (List.mem_append_right _ (List.mem_append_left _ (List.mem_of_getElem? (i := 232) rfl))))))) rfl
set_option maxRecDepth 100000 in
theorem kw_1193 : Cond.code yX5_readCond cX5_readCond 4 (some .boolean) ∈ xg := xg_in (List.mem_append_right _ (List.mem_append_right _ (List.mem_append_right _ (List.mem_append_right _ (List.mem_append_right _ (List.mem_append_left _ (List.mem_of_getElem? (i := 233) rfl))))))) rfl
set_option maxRecDepth 100000 in
theorem kw_1194 : Cond.methodLink RX5 59 yX5_readAll ∈ xg := xg_in (List.mem_append_right _ (List.mem_append_right _ (List.mem_append_right _ (List.mem_append_right _ (List.mem_append_right _ (List.mem_append_left _ (List.mem_of_getElem? (i := 234) rfl))))))) rfl
set_option maxRecDepth 100000 in
theorem kw_1196 : Cond.instanceMethod yX5_readAll ∈ xg := xg_in (List.mem_append_right _ (List.mem_append_right _ (List.mem_append_right _ (List.mem_append_right _ (List.mem_append_right _ (List.mem_append_left _ (List.mem_of_getElem? (i := 236) rfl))))))) rfl
set_option maxRecDepth 100000 in
theorem kw_1197 : Cond.code yX5_readAll cX5_readAll 4 (some .boolean) ∈ xg := xg_in (List.mem_append_right _ (List.mem_append_right _ (List.mem_append_right _ (List.mem_append_right _ (List.mem_append_right _ (List.mem_append_left _ (List.mem_of_getElem? (i := 237) rfl))))))) rfl
set_option maxRecDepth 100000 in
theorem kw_1198 : Cond.methodLink RX5 75 yX5_readOne ∈ xg := xg_in (List.mem_append_right _ (List.mem_append_right _ (List.mem_append_right _ (List.mem_append_right _ (List.mem_append_right _ (List.mem_append_left _ (List.mem_of_getElem? (i := 238) rfl))))))) rfl
set_option maxRecDepth 100000 in
theorem kw_12 : Cond.initialized RX5 ∈ xg := xg_in (List.mem_append_right _ (List.mem_append_left _ (List.mem_of_getElem? (i := 12) rfl))) rfl
set_option maxRecDepth 100000 in
theorem kw_120 : Cond.fieldLink RX6 54 RX6 "faultPlace" "I" ∈ xg := xg_in (List.mem_append_right _ (List.mem_append_left _ (List.mem_of_getElem? (i := 120) rfl))) rfl
set_option maxRecDepth 100000 in
theorem kw_1200 : Cond.instanceMethod yX5_readOne ∈ xg := xg_in (List.mem_append_right _ (List.mem_append_right _ (List.mem_append_right _ (List.mem_append_right _ (List.mem_append_right _ (List.mem_append_right _ (List.mem_append_left _ (List.mem_of_getElem? (i := 0) rfl)))))))) rfl
set_option maxRecDepth 100000 in
theorem kw_1201 : Cond.code yX5_readOne cX5_readOne 5 (some .boolean) ∈ xg := xg_in (List.mem_append_right _ (List.mem_append_right _ (List.mem_append_right _ (List.mem_append_right _ (List.mem_append_right _ (List.mem_append_right _ (List.mem_append_left _ (List.mem_of_getElem? (i := 1) rfl)))))))) rfl
set_option maxRecDepth 100000 in
theorem kw_1202 : Cond.methodLink RX5 80 yX5_leafAhead ∈ xg := xg_in (List.mem_append_right _ (List.mem_append_right _ (List.mem_append_right _ (List.mem_append_right _ (List.mem_append_right _ (List.mem_append_right _ (List.mem_append_left _ (List.mem_of_getElem? (i := 2) rfl)))))))) rfl
set_option maxRecDepth 100000 in
theorem kw_1204 : Cond.instanceMethod yX5_leafAhead ∈ xg := xg_in (List.mem_append_right _ (List.mem_append_right _ (List.mem_append_right _ (List.mem_append_right _ (List.mem_append_right _ (List.mem_append_right _ (List.mem_append_left _ (List.mem_of_getElem? (i := 4) rfl)))))))) rfl
set_option maxRecDepth 100000 in
theorem kw_1205 : Cond.code yX5_leafAhead cX5_leafAhead 1 (some .int) ∈ xg := xg_in (List.mem_append_right _ (List.mem_append_right _ (List.mem_append_right _ (List.mem_append_right _ (List.mem_append_right _ (List.mem_append_right _ (List.mem_append_left _ (List.mem_of_getElem? (i := 5) rfl)))))))) rfl
set_option maxRecDepth 100000 in
theorem kw_1220 : Cond.methodLink RX5 71 yX5_addStep ∈ xg := xg_in (List.mem_append_right _ (List.mem_append_right _ (List.mem_append_right _ (List.mem_append_right _ (List.mem_append_right _ (List.mem_append_right _ (List.mem_append_left _ (List.mem_of_getElem? (i := 20) rfl)))))))) rfl
set_option maxRecDepth 100000 in
theorem kw_1222 : Cond.instanceMethod yX5_addStep ∈ xg := xg_in (List.mem_append_right _ (List.mem_append_right _ (List.mem_append_right _ (List.mem_append_right _ (List.mem_append_right _ (List.mem_append_right _ (List.mem_append_left _ (List.mem_of_getElem? (i := 22) rfl)))))))) rfl
set_option maxRecDepth 100000 in
theorem kw_1223 : Cond.code yX5_addStep cX5_addStep 4 (some .boolean) ∈ xg := xg_in (List.mem_append_right _ (List.mem_append_right _ (List.mem_append_right _ (List.mem_append_right _ (List.mem_append_right _ (List.mem_append_right _ (List.mem_append_left _ (List.mem_of_getElem? (i := 23) rfl)))))))) rfl
set_option maxRecDepth 100000 in
theorem kw_1225 : Cond.methodLink RX5 93 yX5_readLeaf ∈ xg := xg_in (List.mem_append_right _ (List.mem_append_right _ (List.mem_append_right _ (List.mem_append_right _ (List.mem_append_right _ (List.mem_append_right _ (List.mem_append_left _ (List.mem_of_getElem? (i := 25) rfl)))))))) rfl
set_option maxRecDepth 100000 in
theorem kw_1227 : Cond.instanceMethod yX5_readLeaf ∈ xg := xg_in (List.mem_append_right _ (List.mem_append_right _ (List.mem_append_right _ (List.mem_append_right _ (List.mem_append_right _ (List.mem_append_right _ (List.mem_append_left _ (List.mem_of_getElem? (i := 27) rfl)))))))) rfl
set_option maxRecDepth 100000 in
theorem kw_1228 : Cond.code yX5_readLeaf cX5_readLeaf 3 (some .boolean) ∈ xg := xg_in (List.mem_append_right _ (List.mem_append_right _ (List.mem_append_right _ (List.mem_append_right _ (List.mem_append_right _ (List.mem_append_right _ (List.mem_append_left _ (List.mem_of_getElem? (i := 28) rfl)))))))) rfl
set_option maxRecDepth 100000 in
theorem kw_1236 : Cond.instanceMethod yX5_copyFrom ∈ xg := xg_in (List.mem_append_right _ (List.mem_append_right _ (List.mem_append_right _ (List.mem_append_right _ (List.mem_append_right _ (List.mem_append_right _ (List.mem_append_left _ (List.mem_of_getElem? (i := 36) rfl)))))))) rfl
set_option maxRecDepth 100000 in
theorem kw_1237 : Cond.code yX5_copyFrom cX5_copyFrom 2 none ∈ xg := xg_in (List.mem_append_right _ (List.mem_append_right _ (List.mem_append_right _ (List.mem_append_right _ (List.mem_append_right _ (List.mem_append_right _ (List.mem_append_left _ (List.mem_of_getElem? (i := 37) rfl)))))))) rfl
set_option maxRecDepth 100000 in
theorem kw_1245 : Cond.instanceMethod yX5_soulsIn ∈ xg := xg_in (List.mem_append_right _ (List.mem_append_right _ (List.mem_append_right _ (List.mem_append_right _ (List.mem_append_right _ (List.mem_append_right _ (List.mem_append_left _ (List.mem_of_getElem? (i := 45) rfl)))))))) rfl
set_option maxRecDepth 100000 in
theorem kw_1246 : Cond.code yX5_soulsIn cX5_soulsIn 5 (some .int) ∈ xg := xg_in (List.mem_append_right _ (List.mem_append_right _ (List.mem_append_right _ (List.mem_append_right _ (List.mem_append_right _ (List.mem_append_right _ (List.mem_append_left _ (List.mem_of_getElem? (i := 46) rfl)))))))) rfl
set_option maxRecDepth 100000 in
theorem kw_1247 : Cond.methodLink RX5 142 yX5_soulsOfLeaf ∈ xg := xg_in (List.mem_append_right _ (List.mem_append_right _ (List.mem_append_right _ (List.mem_append_right _ (List.mem_append_right _ (List.mem_append_right _ (List.mem_append_left _ (List.mem_of_getElem? (i := 47) rfl)))))))) rfl
set_option maxRecDepth 100000 in
theorem kw_1249 : Cond.instanceMethod yX5_soulsOfLeaf ∈ xg := xg_in (List.mem_append_right _ (List.mem_append_right _ (List.mem_append_right _ (List.mem_append_right _ (List.mem_append_right _ (List.mem_append_right _ (List.mem_append_left _ (List.mem_of_getElem? (i := 49) rfl)))))))) rfl
set_option maxRecDepth 100000 in
theorem kw_1250 : Cond.code yX5_soulsOfLeaf cX5_soulsOfLeaf 5 (some .int) ∈ xg := xg_in (List.mem_append_right _ (List.mem_append_right _ (List.mem_append_right _ (List.mem_append_right _ (List.mem_append_right _ (List.mem_append_right _ (List.mem_append_left _ (List.mem_of_getElem? (i := 50) rfl)))))))) rfl
set_option maxRecDepth 100000 in
theorem kw_1251 : Cond.methodLink RX5 146 yX5_isMeasured ∈ xg := xg_in (List.mem_append_right _ (List.mem_append_right _ (List.mem_append_right _ (List.mem_append_right _ (List.mem_append_right _ (List.mem_append_right _ (List.mem_append_left _ (List.mem_of_getElem? (i := 51) rfl)))))))) rfl
set_option maxRecDepth 100000 in
theorem kw_1253 : Cond.instanceMethod yX5_isMeasured ∈ xg := xg_in (List.mem_append_right _ (List.mem_append_right _ (List.mem_append_right _ (List.mem_append_right _ (List.mem_append_right _ (List.mem_append_right _ (List.mem_append_left _ (List.mem_of_getElem? (i := 53) rfl)))))))) rfl
set_option maxRecDepth 100000 in
theorem kw_1254 : Cond.code yX5_isMeasured cX5_isMeasured 5 (some .boolean) ∈ xg := xg_in (List.mem_append_right _ (List.mem_append_right _ (List.mem_append_right _ (List.mem_append_right _ (List.mem_append_right _ (List.mem_append_right _ (List.mem_append_left _ (List.mem_of_getElem? (i := 54) rfl)))))))) rfl
set_option maxRecDepth 100000 in
theorem kw_1255 : Cond.methodLink RX5 168 yX5_measureOf ∈ xg := xg_in (List.mem_append_right _ (List.mem_append_right _ (List.mem_append_right _ (List.mem_append_right _ (List.mem_append_right _ (List.mem_append_right _ (List.mem_append_left _ (List.mem_of_getElem? (i := 55) rfl)))))))) rfl
set_option maxRecDepth 100000 in
theorem kw_1256 : Cond.static yX5_measureOf ∈ xg := xg_in (List.mem_append_right _ (List.mem_append_right _ (List.mem_append_right _ (List.mem_append_right _ (List.mem_append_right _ (List.mem_append_right _ (List.mem_append_left _ (List.mem_of_getElem? (i := 56) rfl)))))))) rfl
set_option maxRecDepth 100000 in
theorem kw_1257 : Cond.code yX5_measureOf cX5_measureOf 3 (some .int) ∈ xg := xg_in (List.mem_append_right _ (List.mem_append_right _ (List.mem_append_right _ (List.mem_append_right _ (List.mem_append_right _ (List.mem_append_right _ (List.mem_append_left _ (List.mem_of_getElem? (i := 57) rfl)))))))) rfl
set_option maxRecDepth 100000 in
theorem kw_1259 : Cond.methodLink RX5 150 yX5_isSo ∈ xg := xg_in (List.mem_append_right _ (List.mem_append_right _ (List.mem_append_right _ (List.mem_append_right _ (List.mem_append_right _ (List.mem_append_right _ (List.mem_append_left _ (List.mem_of_getElem? (i := 59) rfl)))))))) rfl
set_option maxRecDepth 100000 in
theorem kw_1261 : Cond.instanceMethod yX5_isSo ∈ xg := xg_in (List.mem_append_right _ (List.mem_append_right _ (List.mem_append_right _ (List.mem_append_right _ (List.mem_append_right _ (List.mem_append_right _ (List.mem_append_left _ (List.mem_of_getElem? (i := 61) rfl)))))))) rfl
set_option maxRecDepth 100000 in
theorem kw_1262 : Cond.code yX5_isSo cX5_isSo 4 (some .boolean) ∈ xg := xg_in (List.mem_append_right _ (List.mem_append_right _ (List.mem_append_right _ (List.mem_append_right _ (List.mem_append_right _ (List.mem_append_right _ (List.mem_append_left _ (List.mem_of_getElem? (i := 62) rfl)))))))) rfl
set_option maxRecDepth 100000 in
theorem kw_1267 : Cond.instanceMethod yX2_hasFled ∈ xg := xg_in (List.mem_append_right _ (List.mem_append_right _ (List.mem_append_right _ (List.mem_append_right _ (List.mem_append_right _ (List.mem_append_right _ (List.mem_append_left _ (List.mem_of_getElem? (i := 67) rfl)))))))) rfl
set_option maxRecDepth 100000 in
theorem kw_1268 : Cond.code yX2_hasFled cX2_hasFled 2 (some .boolean) ∈ xg := xg_in (List.mem_append_right _ (List.mem_append_right _ (List.mem_append_right _ (List.mem_append_right _ (List.mem_append_right _ (List.mem_append_right _ (List.mem_append_left _ (List.mem_of_getElem? (i := 68) rfl)))))))) rfl
set_option maxRecDepth 100000 in
theorem kw_1269 : Cond.methodLink RX11 355 yX11_placeOfBit ∈ xg := xg_in (List.mem_append_right _ (List.mem_append_right _ (List.mem_append_right _ (List.mem_append_right _ (List.mem_append_right _ (List.mem_append_right _ (List.mem_append_left _ (List.mem_of_getElem? (i := 69) rfl)))))))) rfl
set_option maxRecDepth 100000 in
theorem kw_1270 : Cond.static yX11_placeOfBit ∈ xg := xg_in (List.mem_append_right _ (List.mem_append_right _ (List.mem_append_right _ (List.mem_append_right _ (List.mem_append_right _ (List.mem_append_right _ (List.mem_append_left _ (List.mem_of_getElem? (i := 70) rfl)))))))) rfl
set_option maxRecDepth 100000 in
theorem kw_1271 : Cond.code yX11_placeOfBit cX11_placeOfBit 4 (some .int) ∈ xg := xg_in (List.mem_append_right _ (List.mem_append_right _ (List.mem_append_right _ (List.mem_append_right _ (List.mem_append_right _ (List.mem_append_right _ (List.mem_append_left _ (List.mem_of_getElem? (i := 71) rfl)))))))) rfl
set_option maxRecDepth 100000 in
theorem kw_1272 : Cond.methodLink RX11 374 yX11_hasBit ∈ xg := xg_in (List.mem_append_right _ (List.mem_append_right _ (List.mem_append_right _ (List.mem_append_right _ (List.mem_append_right _ (List.mem_append_right _ (List.mem_append_left _ (List.mem_of_getElem? (i := 72) rfl)))))))) rfl
set_option maxRecDepth 100000 in
theorem kw_13 : Cond.initialized RX10 ∈ xg := xg_in (List.mem_append_right _ (List.mem_append_left _ (List.mem_of_getElem? (i := 13) rfl))) rfl
set_option maxRecDepth 100000 in
theorem kw_14 : Cond.initialized RX3 ∈ xg := xg_in (List.mem_append_right _ (List.mem_append_left _ (List.mem_of_getElem? (i := 14) rfl))) rfl
set_option maxRecDepth 100000 in
theorem kw_15 : Cond.initialized RX0 ∈ xg := xg_in (List.mem_append_right _ (List.mem_append_left _ (List.mem_of_getElem? (i := 15) rfl))) rfl
set_option maxRecDepth 100000 in
theorem kw_158 : Cond.fieldLink RX7 43 RX7 "names" "I" ∈ xg := xg_in (List.mem_append_right _ (List.mem_append_left _ (List.mem_of_getElem? (i := 158) rfl))) rfl
set_option maxRecDepth 100000 in
theorem kw_163 : Cond.fieldLink RX7 47 RX7 "souls" "I" ∈ xg := xg_in (List.mem_append_right _ (List.mem_append_left _ (List.mem_of_getElem? (i := 163) rfl))) rfl
set_option maxRecDepth 100000 in
theorem kw_169 : Cond.fieldLink RX7 9 RX7 "nameWord" "[J" ∈ xg := xg_in (List.mem_append_right _ (List.mem_append_left _ (List.mem_of_getElem? (i := 169) rfl))) rfl
set_option maxRecDepth 100000 in
theorem kw_170 : Cond.fieldLink RX7 15 RX7 "price" "[I" ∈ xg := xg_in (List.mem_append_right _ (List.mem_append_left _ (List.mem_of_getElem? (i := 170) rfl))) rfl
set_option maxRecDepth 100000 in
theorem kw_174 : Cond.fieldLink RX7 19 RX7 "firstDebt" "[I" ∈ xg := xg_in (List.mem_append_right _ (List.mem_append_left _ (List.mem_of_getElem? (i := 174) rfl))) rfl
set_option maxRecDepth 100000 in
theorem kw_177 : Cond.fieldLink RX7 22 RX7 "every" "[I" ∈ xg := xg_in (List.mem_append_right _ (List.mem_append_left _ (List.mem_of_getElem? (i := 177) rfl))) rfl
set_option maxRecDepth 100000 in
theorem kw_18 : Cond.initialized "java/lang/Math" ∈ xg := xg_in (List.mem_append_right _ (List.mem_append_left _ (List.mem_of_getElem? (i := 18) rfl))) rfl
set_option maxRecDepth 100000 in
theorem kw_180 : Cond.fieldLink RX7 25 RX7 "soulWord" "[J" ∈ xg := xg_in (List.mem_append_right _ (List.mem_append_left _ (List.mem_of_getElem? (i := 180) rfl))) rfl
set_option maxRecDepth 100000 in
theorem kw_181 : Cond.fieldLink RX7 28 RX7 "firstPurse" "[I" ∈ xg := xg_in (List.mem_append_right _ (List.mem_append_left _ (List.mem_of_getElem? (i := 181) rfl))) rfl
set_option maxRecDepth 100000 in
theorem kw_183 : Cond.fieldLink RX7 31 RX7 "firstName" "[I" ∈ xg := xg_in (List.mem_append_right _ (List.mem_append_left _ (List.mem_of_getElem? (i := 183) rfl))) rfl
set_option maxRecDepth 100000 in
theorem kw_186 : Cond.fieldLink RX7 34 RX7 "wish" "[I" ∈ xg := xg_in (List.mem_append_right _ (List.mem_append_left _ (List.mem_of_getElem? (i := 186) rfl))) rfl
set_option maxRecDepth 100000 in
theorem kw_19 : Cond.initialized "java/lang/System" ∈ xg := xg_in (List.mem_append_right _ (List.mem_append_left _ (List.mem_of_getElem? (i := 19) rfl))) rfl
set_option maxRecDepth 100000 in
theorem kw_191 : Cond.fieldLink RX7 37 RX7 "old" "[I" ∈ xg := xg_in (List.mem_append_right _ (List.mem_append_left _ (List.mem_of_getElem? (i := 191) rfl))) rfl
set_option maxRecDepth 100000 in
theorem kw_194 : Cond.fieldLink RX7 40 RX7 "worthRow" "[I" ∈ xg := xg_in (List.mem_append_right _ (List.mem_append_left _ (List.mem_of_getElem? (i := 194) rfl))) rfl
set_option maxRecDepth 100000 in
theorem kw_2 : Cond.initialized RX6 ∈ xg := xg_in (List.mem_append_right _ (List.mem_append_left _ (List.mem_of_getElem? (i := 2) rfl))) rfl
set_option maxRecDepth 100000 in
theorem kw_2030 : Cond.fieldLink RJ0 9 RJ0 "value" "[B" ∈ xg := xg_in (List.mem_append_right _ (List.mem_append_right _ (List.mem_append_right _ (List.mem_append_right _ (List.mem_append_right _ (List.mem_append_right _ (List.mem_append_right _ (List.mem_append_right _ (List.mem_append_right _ (List.mem_of_getElem? (i := 110) rfl)))))))))) rfl
set_option maxRecDepth 100000 in
theorem kw_2031 : Cond.fieldLink RJ0 15 RJ0 "coder" "B" ∈ xg := xg_in (List.mem_append_right _ (List.mem_append_right _ (List.mem_append_right _ (List.mem_append_right _ (List.mem_append_right _ (List.mem_append_right _ (List.mem_append_right _ (List.mem_append_right _ (List.mem_append_right _ (List.mem_of_getElem? (i := 111) rfl)))))))))) rfl
set_option maxRecDepth 100000 in
theorem kw_228 : Cond.fieldLink RX8 9 RX8 "tape" "LNamesAgain$Tape;" ∈ xg := xg_in (List.mem_append_right _ (List.mem_append_left _ (List.mem_of_getElem? (i := 228) rfl))) rfl
set_option maxRecDepth 100000 in
theorem kw_229 : Cond.fieldLink RX8 15 RX8 "draft" "LNamesAgain$Told;" ∈ xg := xg_in (List.mem_append_right _ (List.mem_append_left _ (List.mem_of_getElem? (i := 229) rfl))) rfl
set_option maxRecDepth 100000 in
theorem kw_230 : Cond.fieldLink RX8 30 RX8 "lineCount" "I" ∈ xg := xg_in (List.mem_append_right _ (List.mem_append_left _ (List.mem_of_getElem? (i := 230) rfl))) rfl
set_option maxRecDepth 100000 in
theorem kw_24 : Cond.initialized RJ6 ∈ xg := xg_in (List.mem_append_right _ (List.mem_append_left _ (List.mem_of_getElem? (i := 24) rfl))) rfl
set_option maxRecDepth 100000 in
theorem kw_245 : Cond.fieldLink RX2 37 RX2 "told" "LNamesAgain$Told;" ∈ xg := xg_in (List.mem_append_right _ (List.mem_append_right _ (List.mem_append_left _ (List.mem_of_getElem? (i := 5) rfl)))) rfl
set_option maxRecDepth 100000 in
theorem kw_247 : Cond.fieldLink RX2 41 RX2 "monday" "I" ∈ xg := xg_in (List.mem_append_right _ (List.mem_append_right _ (List.mem_append_left _ (List.mem_of_getElem? (i := 7) rfl)))) rfl
set_option maxRecDepth 100000 in
theorem kw_250 : Cond.fieldLink RX2 50 RX2 "living" "I" ∈ xg := xg_in (List.mem_append_right _ (List.mem_append_right _ (List.mem_append_left _ (List.mem_of_getElem? (i := 10) rfl)))) rfl
set_option maxRecDepth 100000 in
theorem kw_252 : Cond.fieldLink RX2 53 RX2 "changed" "I" ∈ xg := xg_in (List.mem_append_right _ (List.mem_append_right _ (List.mem_append_left _ (List.mem_of_getElem? (i := 12) rfl)))) rfl
set_option maxRecDepth 100000 in
theorem kw_253 : Cond.fieldLink RX2 56 RX2 "fugitives" "I" ∈ xg := xg_in (List.mem_append_right _ (List.mem_append_right _ (List.mem_append_left _ (List.mem_of_getElem? (i := 13) rfl)))) rfl
set_option maxRecDepth 100000 in
theorem kw_255 : Cond.fieldLink RX2 59 RX2 "sour" "I" ∈ xg := xg_in (List.mem_append_right _ (List.mem_append_right _ (List.mem_append_left _ (List.mem_of_getElem? (i := 15) rfl)))) rfl
set_option maxRecDepth 100000 in
theorem kw_257 : Cond.fieldLink RX2 62 RX2 "waitCount" "I" ∈ xg := xg_in (List.mem_append_right _ (List.mem_append_right _ (List.mem_append_left _ (List.mem_of_getElem? (i := 17) rfl)))) rfl
set_option maxRecDepth 100000 in
theorem kw_260 : Cond.fieldLink RX2 9 RX2 "bearer" "[I" ∈ xg := xg_in (List.mem_append_right _ (List.mem_append_right _ (List.mem_append_left _ (List.mem_of_getElem? (i := 20) rfl)))) rfl
set_option maxRecDepth 100000 in
theorem kw_264 : Cond.fieldLink RX2 15 RX2 "debt" "[I" ∈ xg := xg_in (List.mem_append_right _ (List.mem_append_right _ (List.mem_append_left _ (List.mem_of_getElem? (i := 24) rfl)))) rfl
set_option maxRecDepth 100000 in
theorem kw_266 : Cond.fieldLink RX2 18 RX2 "hangedTill" "[I" ∈ xg := xg_in (List.mem_append_right _ (List.mem_append_right _ (List.mem_append_left _ (List.mem_of_getElem? (i := 26) rfl)))) rfl
set_option maxRecDepth 100000 in
theorem kw_267 : Cond.fieldLink RX2 21 RX2 "nameOf" "[I" ∈ xg := xg_in (List.mem_append_right _ (List.mem_append_right _ (List.mem_append_left _ (List.mem_of_getElem? (i := 27) rfl)))) rfl
set_option maxRecDepth 100000 in
theorem kw_271 : Cond.fieldLink RX2 24 RX2 "purse" "[I" ∈ xg := xg_in (List.mem_append_right _ (List.mem_append_right _ (List.mem_append_left _ (List.mem_of_getElem? (i := 31) rfl)))) rfl
set_option maxRecDepth 100000 in
theorem kw_275 : Cond.fieldLink RX2 27 RX2 "feasted" "[I" ∈ xg := xg_in (List.mem_append_right _ (List.mem_append_right _ (List.mem_append_left _ (List.mem_of_getElem? (i := 35) rfl)))) rfl
set_option maxRecDepth 100000 in
theorem kw_278 : Cond.fieldLink RX2 30 RX2 "waiting" "[I" ∈ xg := xg_in (List.mem_append_right _ (List.mem_append_right _ (List.mem_append_left _ (List.mem_of_getElem? (i := 38) rfl)))) rfl
set_option maxRecDepth 100000 in
theorem kw_281 : Cond.fieldLink RX2 33 RX2 "past" "[J" ∈ xg := xg_in (List.mem_append_right _ (List.mem_append_right _ (List.mem_append_left _ (List.mem_of_getElem? (i := 41) rfl)))) rfl
set_option maxRecDepth 100000 in
theorem kw_3 : Cond.initialized RJ0 ∈ xg := xg_in (List.mem_append_right _ (List.mem_append_left _ (List.mem_of_getElem? (i := 3) rfl))) rfl
set_option maxRecDepth 100000 in
theorem kw_322 : Cond.fieldLink RX9 11 RX9 "kept" "[LNamesAgain$Life;" ∈ xg := xg_in (List.mem_append_right _ (List.mem_append_right _ (List.mem_append_left _ (List.mem_of_getElem? (i := 82) rfl)))) rfl
set_option maxRecDepth 100000 in
theorem kw_323 : Cond.fieldLink RX9 18 RX9 "next" "I" ∈ xg := xg_in (List.mem_append_right _ (List.mem_append_right _ (List.mem_append_left _ (List.mem_of_getElem? (i := 83) rfl)))) rfl
set_option maxRecDepth 100000 in
theorem kw_324 : Cond.fieldLink RX9 26 RX9 "size" "I" ∈ xg := xg_in (List.mem_append_right _ (List.mem_append_right _ (List.mem_append_left _ (List.mem_of_getElem? (i := 84) rfl)))) rfl
set_option maxRecDepth 100000 in
theorem kw_339 : Cond.fieldLink RX4 21 RX4 "tape" "LNamesAgain$Tape;" ∈ xg := xg_in (List.mem_append_right _ (List.mem_append_right _ (List.mem_append_left _ (List.mem_of_getElem? (i := 99) rfl)))) rfl
set_option maxRecDepth 100000 in
theorem kw_340 : Cond.fieldLink RX4 25 RX4 "told" "LNamesAgain$Told;" ∈ xg := xg_in (List.mem_append_right _ (List.mem_append_right _ (List.mem_append_left _ (List.mem_of_getElem? (i := 100) rfl)))) rfl
set_option maxRecDepth 100000 in
theorem kw_341 : Cond.fieldLink RX4 11 RX4 "sort" "[I" ∈ xg := xg_in (List.mem_append_right _ (List.mem_append_right _ (List.mem_append_left _ (List.mem_of_getElem? (i := 101) rfl)))) rfl
set_option maxRecDepth 100000 in
theorem kw_342 : Cond.fieldLink RX4 15 RX4 "who" "[I" ∈ xg := xg_in (List.mem_append_right _ (List.mem_append_right _ (List.mem_append_left _ (List.mem_of_getElem? (i := 102) rfl)))) rfl
set_option maxRecDepth 100000 in
theorem kw_343 : Cond.fieldLink RX4 18 RX4 "whom" "[I" ∈ xg := xg_in (List.mem_append_right _ (List.mem_append_right _ (List.mem_append_left _ (List.mem_of_getElem? (i := 103) rfl)))) rfl
set_option maxRecDepth 100000 in
theorem kw_344 : Cond.fieldLink RX4 29 RX4 "lineCount" "I" ∈ xg := xg_in (List.mem_append_right _ (List.mem_append_right _ (List.mem_append_left _ (List.mem_of_getElem? (i := 104) rfl)))) rfl
set_option maxRecDepth 100000 in
theorem kw_345 : Cond.fieldLink RX4 109 RX4 "judged" "Z" ∈ xg := xg_in (List.mem_append_right _ (List.mem_append_right _ (List.mem_append_left _ (List.mem_of_getElem? (i := 105) rfl)))) rfl
set_option maxRecDepth 100000 in
theorem kw_347 : Cond.fieldLink RX4 113 RX4 "reason" "I" ∈ xg := xg_in (List.mem_append_right _ (List.mem_append_right _ (List.mem_append_left _ (List.mem_of_getElem? (i := 107) rfl)))) rfl
set_option maxRecDepth 100000 in
theorem kw_349 : Cond.fieldLink RX4 116 RX4 "goodLines" "I" ∈ xg := xg_in (List.mem_append_right _ (List.mem_append_right _ (List.mem_append_left _ (List.mem_of_getElem? (i := 109) rfl)))) rfl
set_option maxRecDepth 100000 in
theorem kw_351 : Cond.fieldLink RX4 131 RX4 "mondayThen" "I" ∈ xg := xg_in (List.mem_append_right _ (List.mem_append_right _ (List.mem_append_left _ (List.mem_of_getElem? (i := 111) rfl)))) rfl
set_option maxRecDepth 100000 in
theorem kw_353 : Cond.fieldLink RX4 137 RX4 "waitingThen" "I" ∈ xg := xg_in (List.mem_append_right _ (List.mem_append_right _ (List.mem_append_left _ (List.mem_of_getElem? (i := 113) rfl)))) rfl
set_option maxRecDepth 100000 in
theorem kw_384 : Cond.fieldLink RX5 24 RX5 "tape" "LNamesAgain$Tape;" ∈ xg := xg_in (List.mem_append_right _ (List.mem_append_right _ (List.mem_append_left _ (List.mem_of_getElem? (i := 144) rfl)))) rfl
set_option maxRecDepth 100000 in
theorem kw_385 : Cond.fieldLink RX5 28 RX5 "told" "LNamesAgain$Told;" ∈ xg := xg_in (List.mem_append_right _ (List.mem_append_right _ (List.mem_append_left _ (List.mem_of_getElem? (i := 145) rfl)))) rfl
set_option maxRecDepth 100000 in
theorem kw_386 : Cond.fieldLink RX5 11 RX5 "step" "[I" ∈ xg := xg_in (List.mem_append_right _ (List.mem_append_right _ (List.mem_append_left _ (List.mem_of_getElem? (i := 146) rfl)))) rfl
set_option maxRecDepth 100000 in
theorem kw_387 : Cond.fieldLink RX5 15 RX5 "sign" "[I" ∈ xg := xg_in (List.mem_append_right _ (List.mem_append_right _ (List.mem_append_left _ (List.mem_of_getElem? (i := 147) rfl)))) rfl
set_option maxRecDepth 100000 in
theorem kw_388 : Cond.fieldLink RX5 18 RX5 "value" "[I" ∈ xg := xg_in (List.mem_append_right _ (List.mem_append_right _ (List.mem_append_left _ (List.mem_of_getElem? (i := 148) rfl)))) rfl
set_option maxRecDepth 100000 in
theorem kw_389 : Cond.fieldLink RX5 21 RX5 "sets" "[I" ∈ xg := xg_in (List.mem_append_right _ (List.mem_append_right _ (List.mem_append_left _ (List.mem_of_getElem? (i := 149) rfl)))) rfl
set_option maxRecDepth 100000 in
theorem kw_390 : Cond.fieldLink RX5 32 RX5 "steps" "I" ∈ xg := xg_in (List.mem_append_right _ (List.mem_append_right _ (List.mem_append_left _ (List.mem_of_getElem? (i := 150) rfl)))) rfl
set_option maxRecDepth 100000 in
theorem kw_391 : Cond.fieldLink RX5 36 RX5 "ones" "I" ∈ xg := xg_in (List.mem_append_right _ (List.mem_append_right _ (List.mem_append_left _ (List.mem_of_getElem? (i := 151) rfl)))) rfl
set_option maxRecDepth 100000 in
theorem kw_4 : Cond.initialized RJ1 ∈ xg := xg_in (List.mem_append_right _ (List.mem_append_left _ (List.mem_of_getElem? (i := 4) rfl))) rfl
set_option maxRecDepth 100000 in
theorem kw_416 : Cond.fieldLink RX10 18 RX10 "told" "LNamesAgain$Told;" ∈ xg := xg_in (List.mem_append_right _ (List.mem_append_right _ (List.mem_append_left _ (List.mem_of_getElem? (i := 176) rfl)))) rfl
set_option maxRecDepth 100000 in
theorem kw_417 : Cond.fieldLink RX10 22 RX10 "life" "LNamesAgain$Life;" ∈ xg := xg_in (List.mem_append_right _ (List.mem_append_right _ (List.mem_append_left _ (List.mem_of_getElem? (i := 177) rfl)))) rfl
set_option maxRecDepth 100000 in
theorem kw_418 : Cond.fieldLink RX10 9 RX10 "pointsAt" "[I" ∈ xg := xg_in (List.mem_append_right _ (List.mem_append_right _ (List.mem_append_left _ (List.mem_of_getElem? (i := 178) rfl)))) rfl
set_option maxRecDepth 100000 in
theorem kw_419 : Cond.fieldLink RX10 15 RX10 "partners" "[I" ∈ xg := xg_in (List.mem_append_right _ (List.mem_append_right _ (List.mem_append_left _ (List.mem_of_getElem? (i := 179) rfl)))) rfl
set_option maxRecDepth 100000 in
theorem kw_420 : Cond.fieldLink RX10 26 RX10 "hasPartners" "Z" ∈ xg := xg_in (List.mem_append_right _ (List.mem_append_right _ (List.mem_append_left _ (List.mem_of_getElem? (i := 180) rfl)))) rfl
set_option maxRecDepth 100000 in
theorem kw_438 : Cond.fieldLink RX3 15 RX3 "told" "LNamesAgain$Told;" ∈ xg := xg_in (List.mem_append_right _ (List.mem_append_right _ (List.mem_append_left _ (List.mem_of_getElem? (i := 198) rfl)))) rfl
set_option maxRecDepth 100000 in
theorem kw_439 : Cond.fieldLink RX3 19 RX3 "life" "LNamesAgain$Life;" ∈ xg := xg_in (List.mem_append_right _ (List.mem_append_right _ (List.mem_append_left _ (List.mem_of_getElem? (i := 199) rfl)))) rfl
set_option maxRecDepth 100000 in
theorem kw_44 : Cond.methodLink RX6 29 yJ0_length_8abf5 ∈ xg := xg_in (List.mem_append_right _ (List.mem_append_left _ (List.mem_of_getElem? (i := 44) rfl))) rfl
set_option maxRecDepth 100000 in
theorem kw_440 : Cond.fieldLink RX3 23 RX3 "secondBid" "I" ∈ xg := xg_in (List.mem_append_right _ (List.mem_append_right _ (List.mem_append_left _ (List.mem_of_getElem? (i := 200) rfl)))) rfl
set_option maxRecDepth 100000 in
theorem kw_442 : Cond.fieldLink RX3 58 RX3 "leastCoin" "I" ∈ xg := xg_in (List.mem_append_right _ (List.mem_append_right _ (List.mem_append_left _ (List.mem_of_getElem? (i := 202) rfl)))) rfl
set_option maxRecDepth 100000 in
theorem kw_443 : Cond.fieldLink RX3 9 RX3 "cheapestName" "I" ∈ xg := xg_in (List.mem_append_right _ (List.mem_append_right _ (List.mem_append_left _ (List.mem_of_getElem? (i := 203) rfl)))) rfl
set_option maxRecDepth 100000 in
theorem kw_45 : Cond.instanceMethod yJ0_length_8abf5 ∈ xg := xg_in (List.mem_append_right _ (List.mem_append_left _ (List.mem_of_getElem? (i := 45) rfl))) rfl
set_option maxRecDepth 100000 in
theorem kw_46 : Cond.selects RJ0 yJ0_length_8abf5 yJ0_length_8abf5 ∈ xg := xg_in (List.mem_append_right _ (List.mem_append_left _ (List.mem_of_getElem? (i := 46) rfl))) rfl
set_option maxRecDepth 100000 in
theorem kw_462 : Cond.fieldLink RX0 7 RX0 "seed" "I" ∈ xg := xg_in (List.mem_append_right _ (List.mem_append_right _ (List.mem_append_left _ (List.mem_of_getElem? (i := 222) rfl)))) rfl
set_option maxRecDepth 100000 in
theorem kw_47 : Cond.code yJ0_length_8abf5 cJ0_length_8abf5 1 (some .int) ∈ xg := xg_in (List.mem_append_right _ (List.mem_append_left _ (List.mem_of_getElem? (i := 47) rfl))) rfl
set_option maxRecDepth 100000 in
theorem kw_48 : Cond.methodLink RJ0 335 yJ0_coder_7d493 ∈ xg := xg_in (List.mem_append_right _ (List.mem_append_left _ (List.mem_of_getElem? (i := 48) rfl))) rfl
set_option maxRecDepth 100000 in
theorem kw_49 : Cond.instanceMethod yJ0_coder_7d493 ∈ xg := xg_in (List.mem_append_right _ (List.mem_append_left _ (List.mem_of_getElem? (i := 49) rfl))) rfl
set_option maxRecDepth 100000 in
theorem kw_496 : Cond.fieldLink RX11 10 RX11 "tape" "LNamesAgain$Tape;" ∈ xg := xg_in (List.mem_append_right _ (List.mem_append_right _ (List.mem_append_right _ (List.mem_append_left _ (List.mem_of_getElem? (i := 16) rfl))))) rfl
set_option maxRecDepth 100000 in
theorem kw_497 : Cond.fieldLink RX11 19 RX11 "told" "LNamesAgain$Told;" ∈ xg := xg_in (List.mem_append_right _ (List.mem_append_right _ (List.mem_append_right _ (List.mem_append_left _ (List.mem_of_getElem? (i := 17) rfl))))) rfl
set_option maxRecDepth 100000 in
theorem kw_498 : Cond.fieldLink RX11 23 RX11 "draft" "LNamesAgain$Told;" ∈ xg := xg_in (List.mem_append_right _ (List.mem_append_right _ (List.mem_append_right _ (List.mem_append_left _ (List.mem_of_getElem? (i := 18) rfl))))) rfl
set_option maxRecDepth 100000 in
theorem kw_499 : Cond.fieldLink RX11 31 RX11 "townReader" "LNamesAgain$TownReader;" ∈ xg := xg_in (List.mem_append_right _ (List.mem_append_right _ (List.mem_append_right _ (List.mem_append_left _ (List.mem_of_getElem? (i := 19) rfl))))) rfl
set_option maxRecDepth 100000 in
theorem kw_5 : Cond.initialized RJ3 ∈ xg := xg_in (List.mem_append_right _ (List.mem_append_left _ (List.mem_of_getElem? (i := 5) rfl))) rfl
set_option maxRecDepth 100000 in
theorem kw_50 : Cond.selects RJ0 yJ0_coder_7d493 yJ0_coder_7d493 ∈ xg := xg_in (List.mem_append_right _ (List.mem_append_left _ (List.mem_of_getElem? (i := 50) rfl))) rfl
set_option maxRecDepth 100000 in
theorem kw_500 : Cond.fieldLink RX11 40 RX11 "life" "LNamesAgain$Life;" ∈ xg := xg_in (List.mem_append_right _ (List.mem_append_right _ (List.mem_append_right _ (List.mem_append_left _ (List.mem_of_getElem? (i := 20) rfl))))) rfl
set_option maxRecDepth 100000 in
theorem kw_501 : Cond.fieldLink RX11 44 RX11 "spare" "LNamesAgain$Life;" ∈ xg := xg_in (List.mem_append_right _ (List.mem_append_right _ (List.mem_append_right _ (List.mem_append_left _ (List.mem_of_getElem? (i := 21) rfl))))) rfl
set_option maxRecDepth 100000 in
theorem kw_502 : Cond.fieldLink RX11 50 RX11 "undos" "LNamesAgain$Undo;" ∈ xg := xg_in (List.mem_append_right _ (List.mem_append_right _ (List.mem_append_right _ (List.mem_append_left _ (List.mem_of_getElem? (i := 22) rfl))))) rfl
set_option maxRecDepth 100000 in
theorem kw_503 : Cond.fieldLink RX11 57 RX11 "lines" "LNamesAgain$Roll;" ∈ xg := xg_in (List.mem_append_right _ (List.mem_append_right _ (List.mem_append_right _ (List.mem_append_left _ (List.mem_of_getElem? (i := 23) rfl))))) rfl
set_option maxRecDepth 100000 in
theorem kw_504 : Cond.fieldLink RX11 64 RX11 "saying" "LNamesAgain$Sentence;" ∈ xg := xg_in (List.mem_append_right _ (List.mem_append_right _ (List.mem_append_right _ (List.mem_append_left _ (List.mem_of_getElem? (i := 24) rfl))))) rfl
set_option maxRecDepth 100000 in
theorem kw_505 : Cond.fieldLink RX11 68 RX11 "newSaying" "LNamesAgain$Sentence;" ∈ xg := xg_in (List.mem_append_right _ (List.mem_append_right _ (List.mem_append_right _ (List.mem_append_left _ (List.mem_of_getElem? (i := 25) rfl))))) rfl
set_option maxRecDepth 100000 in
theorem kw_506 : Cond.fieldLink RX11 76 RX11 "wishing" "LNamesAgain$Wishes;" ∈ xg := xg_in (List.mem_append_right _ (List.mem_append_right _ (List.mem_append_right _ (List.mem_append_left _ (List.mem_of_getElem? (i := 26) rfl))))) rfl
set_option maxRecDepth 100000 in
theorem kw_507 : Cond.fieldLink RX11 83 RX11 "market" "LNamesAgain$Market;" ∈ xg := xg_in (List.mem_append_right _ (List.mem_append_right _ (List.mem_append_right _ (List.mem_append_left _ (List.mem_of_getElem? (i := 27) rfl))))) rfl
set_option maxRecDepth 100000 in
theorem kw_508 : Cond.fieldLink RX11 90 RX11 "draw" "LNamesAgain$Draw;" ∈ xg := xg_in (List.mem_append_right _ (List.mem_append_right _ (List.mem_append_right _ (List.mem_append_left _ (List.mem_of_getElem? (i := 28) rfl))))) rfl
set_option maxRecDepth 100000 in
theorem kw_509 : Cond.fieldLink RX11 96 RX11 "images" "[LNamesAgain$Image;" ∈ xg := xg_in (List.mem_append_right _ (List.mem_append_right _ (List.mem_append_right _ (List.mem_append_left _ (List.mem_of_getElem? (i := 29) rfl))))) rfl
set_option maxRecDepth 100000 in
theorem kw_51 : Cond.code yJ0_coder_7d493 cJ0_coder_7d493 1 (some .byte) ∈ xg := xg_in (List.mem_append_right _ (List.mem_append_left _ (List.mem_of_getElem? (i := 51) rfl))) rfl
set_option maxRecDepth 100000 in
theorem kw_510 : Cond.fieldLink RX11 122 RX11 "latestFault" "I" ∈ xg := xg_in (List.mem_append_right _ (List.mem_append_right _ (List.mem_append_right _ (List.mem_append_left _ (List.mem_of_getElem? (i := 30) rfl))))) rfl
set_option maxRecDepth 100000 in
theorem kw_52 : Cond.fieldLink RJ0 38 RJ0 "COMPACT_STRINGS" "Z" ∈ xg := xg_in (List.mem_append_right _ (List.mem_append_left _ (List.mem_of_getElem? (i := 52) rfl))) rfl
set_option maxRecDepth 100000 in
theorem kw_54 : Cond.methodLink RX6 39 yJ0_charAt_5068e ∈ xg := xg_in (List.mem_append_right _ (List.mem_append_left _ (List.mem_of_getElem? (i := 54) rfl))) rfl
set_option maxRecDepth 100000 in
theorem kw_548 : Cond.instanceMethod yX6_hasRoom ∈ xg := xg_in (List.mem_append_right _ (List.mem_append_right _ (List.mem_append_right _ (List.mem_append_left _ (List.mem_of_getElem? (i := 68) rfl))))) rfl
set_option maxRecDepth 100000 in
theorem kw_549 : Cond.code yX6_hasRoom cX6_hasRoom 2 (some .boolean) ∈ xg := xg_in (List.mem_append_right _ (List.mem_append_right _ (List.mem_append_right _ (List.mem_append_left _ (List.mem_of_getElem? (i := 69) rfl))))) rfl
set_option maxRecDepth 100000 in
theorem kw_55 : Cond.instanceMethod yJ0_charAt_5068e ∈ xg := xg_in (List.mem_append_right _ (List.mem_append_left _ (List.mem_of_getElem? (i := 55) rfl))) rfl
set_option maxRecDepth 100000 in
theorem kw_552 : Cond.instanceMethod yX6_put ∈ xg := xg_in (List.mem_append_right _ (List.mem_append_right _ (List.mem_append_right _ (List.mem_append_left _ (List.mem_of_getElem? (i := 72) rfl))))) rfl
set_option maxRecDepth 100000 in
theorem kw_553 : Cond.code yX6_put cX6_put 3 none ∈ xg := xg_in (List.mem_append_right _ (List.mem_append_right _ (List.mem_append_right _ (List.mem_append_left _ (List.mem_of_getElem? (i := 73) rfl))))) rfl
set_option maxRecDepth 100000 in
theorem kw_56 : Cond.selects RJ0 yJ0_charAt_5068e yJ0_charAt_5068e ∈ xg := xg_in (List.mem_append_right _ (List.mem_append_left _ (List.mem_of_getElem? (i := 56) rfl))) rfl
set_option maxRecDepth 100000 in
theorem kw_564 : Cond.instanceMethod yX8_read ∈ xg := xg_in (List.mem_append_right _ (List.mem_append_right _ (List.mem_append_right _ (List.mem_append_left _ (List.mem_of_getElem? (i := 84) rfl))))) rfl
set_option maxRecDepth 100000 in
theorem kw_565 : Cond.code yX8_read cX8_read 1 (some .boolean) ∈ xg := xg_in (List.mem_append_right _ (List.mem_append_right _ (List.mem_append_right _ (List.mem_append_left _ (List.mem_of_getElem? (i := 85) rfl))))) rfl
set_option maxRecDepth 100000 in
theorem kw_568 : Cond.instanceMethod yX7_clear ∈ xg := xg_in (List.mem_append_right _ (List.mem_append_right _ (List.mem_append_right _ (List.mem_append_left _ (List.mem_of_getElem? (i := 88) rfl))))) rfl
set_option maxRecDepth 100000 in
theorem kw_569 : Cond.code yX7_clear cX7_clear 1 none ∈ xg := xg_in (List.mem_append_right _ (List.mem_append_right _ (List.mem_append_right _ (List.mem_append_left _ (List.mem_of_getElem? (i := 89) rfl))))) rfl
set_option maxRecDepth 100000 in
theorem kw_57 : Cond.code yJ0_charAt_5068e cJ0_charAt_5068e 2 (some .char) ∈ xg := xg_in (List.mem_append_right _ (List.mem_append_left _ (List.mem_of_getElem? (i := 57) rfl))) rfl
set_option maxRecDepth 100000 in
theorem kw_572 : Cond.instanceMethod yX6_startText ∈ xg := xg_in (List.mem_append_right _ (List.mem_append_right _ (List.mem_append_right _ (List.mem_append_left _ (List.mem_of_getElem? (i := 92) rfl))))) rfl
set_option maxRecDepth 100000 in
theorem kw_573 : Cond.code yX6_startText cX6_startText 2 none ∈ xg := xg_in (List.mem_append_right _ (List.mem_append_right _ (List.mem_append_right _ (List.mem_append_left _ (List.mem_of_getElem? (i := 93) rfl))))) rfl
set_option maxRecDepth 100000 in
theorem kw_574 : Cond.methodLink RX6 57 yX6_advance ∈ xg := xg_in (List.mem_append_right _ (List.mem_append_right _ (List.mem_append_right _ (List.mem_append_left _ (List.mem_of_getElem? (i := 94) rfl))))) rfl
set_option maxRecDepth 100000 in
theorem kw_576 : Cond.instanceMethod yX6_advance ∈ xg := xg_in (List.mem_append_right _ (List.mem_append_right _ (List.mem_append_right _ (List.mem_append_left _ (List.mem_of_getElem? (i := 96) rfl))))) rfl
set_option maxRecDepth 100000 in
theorem kw_577 : Cond.code yX6_advance cX6_advance 4 none ∈ xg := xg_in (List.mem_append_right _ (List.mem_append_right _ (List.mem_append_right _ (List.mem_append_left _ (List.mem_of_getElem? (i := 97) rfl))))) rfl
set_option maxRecDepth 100000 in
theorem kw_578 : Cond.methodLink RX8 37 yX8_readLine ∈ xg := xg_in (List.mem_append_right _ (List.mem_append_right _ (List.mem_append_right _ (List.mem_append_left _ (List.mem_of_getElem? (i := 98) rfl))))) rfl
set_option maxRecDepth 100000 in
theorem kw_58 : Cond.methodLink RJ0 492 yJ0_isLatin1_aae02 ∈ xg := xg_in (List.mem_append_right _ (List.mem_append_left _ (List.mem_of_getElem? (i := 58) rfl))) rfl
set_option maxRecDepth 100000 in
theorem kw_580 : Cond.instanceMethod yX8_readLine ∈ xg := xg_in (List.mem_append_right _ (List.mem_append_right _ (List.mem_append_right _ (List.mem_append_left _ (List.mem_of_getElem? (i := 100) rfl))))) rfl
set_option maxRecDepth 100000 in
theorem kw_581 : Cond.code yX8_readLine cX8_readLine 1 (some .boolean) ∈ xg := xg_in (List.mem_append_right _ (List.mem_append_right _ (List.mem_append_right _ (List.mem_append_left _ (List.mem_of_getElem? (i := 101) rfl))))) rfl
set_option maxRecDepth 100000 in
theorem kw_585 : Cond.instanceMethod yX6_isWord ∈ xg := xg_in (List.mem_append_right _ (List.mem_append_right _ (List.mem_append_right _ (List.mem_append_left _ (List.mem_of_getElem? (i := 105) rfl))))) rfl
set_option maxRecDepth 100000 in
theorem kw_586 : Cond.code yX6_isWord cX6_isWord 5 (some .boolean) ∈ xg := xg_in (List.mem_append_right _ (List.mem_append_right _ (List.mem_append_right _ (List.mem_append_left _ (List.mem_of_getElem? (i := 106) rfl))))) rfl
set_option maxRecDepth 100000 in
theorem kw_587 : Cond.methodLink RX8 51 yX8_readNameLine ∈ xg := xg_in (List.mem_append_right _ (List.mem_append_right _ (List.mem_append_right _ (List.mem_append_left _ (List.mem_of_getElem? (i := 107) rfl))))) rfl
set_option maxRecDepth 100000 in
theorem kw_589 : Cond.instanceMethod yX8_readNameLine ∈ xg := xg_in (List.mem_append_right _ (List.mem_append_right _ (List.mem_append_right _ (List.mem_append_left _ (List.mem_of_getElem? (i := 109) rfl))))) rfl
set_option maxRecDepth 100000 in
theorem kw_59 : Cond.instanceMethod yJ0_isLatin1_aae02 ∈ xg := xg_in (List.mem_append_right _ (List.mem_append_left _ (List.mem_of_getElem? (i := 59) rfl))) rfl
set_option maxRecDepth 100000 in
theorem kw_590 : Cond.code yX8_readNameLine cX8_readNameLine 3 (some .boolean) ∈ xg := xg_in (List.mem_append_right _ (List.mem_append_right _ (List.mem_append_right _ (List.mem_append_left _ (List.mem_of_getElem? (i := 110) rfl))))) rfl
set_option maxRecDepth 100000 in
theorem kw_593 : Cond.instanceMethod yX6_refuse ∈ xg := xg_in (List.mem_append_right _ (List.mem_append_right _ (List.mem_append_right _ (List.mem_append_left _ (List.mem_of_getElem? (i := 113) rfl))))) rfl
set_option maxRecDepth 100000 in
theorem kw_594 : Cond.code yX6_refuse cX6_refuse 2 (some .boolean) ∈ xg := xg_in (List.mem_append_right _ (List.mem_append_right _ (List.mem_append_right _ (List.mem_append_left _ (List.mem_of_getElem? (i := 114) rfl))))) rfl
set_option maxRecDepth 100000 in
theorem kw_596 : Cond.methodLink RX8 106 yX8_passNewWord ∈ xg := xg_in (List.mem_append_right _ (List.mem_append_right _ (List.mem_append_right _ (List.mem_append_left _ (List.mem_of_getElem? (i := 116) rfl))))) rfl
set_option maxRecDepth 100000 in
theorem kw_598 : Cond.instanceMethod yX8_passNewWord ∈ xg := xg_in (List.mem_append_right _ (List.mem_append_right _ (List.mem_append_right _ (List.mem_append_left _ (List.mem_of_getElem? (i := 118) rfl))))) rfl
set_option maxRecDepth 100000 in
theorem kw_599 : Cond.code yX8_passNewWord cX8_passNewWord 2 (some .boolean) ∈ xg := xg_in (List.mem_append_right _ (List.mem_append_right _ (List.mem_append_right _ (List.mem_append_left _ (List.mem_of_getElem? (i := 119) rfl))))) rfl
set_option maxRecDepth 100000 in
theorem kw_6 : Cond.initialized RJ2 ∈ xg := xg_in (List.mem_append_right _ (List.mem_append_left _ (List.mem_of_getElem? (i := 6) rfl))) rfl
set_option maxRecDepth 100000 in
theorem kw_60 : Cond.selects RJ0 yJ0_isLatin1_aae02 yJ0_isLatin1_aae02 ∈ xg := xg_in (List.mem_append_right _ (List.mem_append_left _ (List.mem_of_getElem? (i := 60) rfl))) rfl
set_option maxRecDepth 100000 in
theorem kw_602 : Cond.instanceMethod yX6_canBeNameOrSoul ∈ xg := xg_in (List.mem_append_right _ (List.mem_append_right _ (List.mem_append_right _ (List.mem_append_left _ (List.mem_of_getElem? (i := 122) rfl))))) rfl
set_option maxRecDepth 100000 in
theorem kw_603 : Cond.code yX6_canBeNameOrSoul cX6_canBeNameOrSoul 2 (some .boolean) ∈ xg := xg_in (List.mem_append_right _ (List.mem_append_right _ (List.mem_append_right _ (List.mem_append_left _ (List.mem_of_getElem? (i := 123) rfl))))) rfl
set_option maxRecDepth 100000 in
theorem kw_606 : Cond.instanceMethod yX7_findName ∈ xg := xg_in (List.mem_append_right _ (List.mem_append_right _ (List.mem_append_right _ (List.mem_append_left _ (List.mem_of_getElem? (i := 126) rfl))))) rfl
set_option maxRecDepth 100000 in
theorem kw_607 : Cond.code yX7_findName cX7_findName 3 (some .int) ∈ xg := xg_in (List.mem_append_right _ (List.mem_append_right _ (List.mem_append_right _ (List.mem_append_left _ (List.mem_of_getElem? (i := 127) rfl))))) rfl
set_option maxRecDepth 100000 in
theorem kw_608 : Cond.methodLink RX7 57 yX7_find ∈ xg := xg_in (List.mem_append_right _ (List.mem_append_right _ (List.mem_append_right _ (List.mem_append_left _ (List.mem_of_getElem? (i := 128) rfl))))) rfl
set_option maxRecDepth 100000 in
theorem kw_609 : Cond.static yX7_find ∈ xg := xg_in (List.mem_append_right _ (List.mem_append_right _ (List.mem_append_right _ (List.mem_append_left _ (List.mem_of_getElem? (i := 129) rfl))))) rfl
set_option maxRecDepth 100000 in
theorem kw_61 : Cond.code yJ0_isLatin1_aae02 cJ0_isLatin1_aae02 1 (some .boolean) ∈ xg := xg_in (List.mem_append_right _ (List.mem_append_left _ (List.mem_of_getElem? (i := 61) rfl))) rfl
set_option maxRecDepth 100000 in
theorem kw_610 : Cond.code yX7_find cX7_find 5 (some .int) ∈ xg := xg_in (List.mem_append_right _ (List.mem_append_right _ (List.mem_append_right _ (List.mem_append_left _ (List.mem_of_getElem? (i := 130) rfl))))) rfl
set_option maxRecDepth 100000 in
theorem kw_613 : Cond.instanceMethod yX7_findSoul ∈ xg := xg_in (List.mem_append_right _ (List.mem_append_right _ (List.mem_append_right _ (List.mem_append_left _ (List.mem_of_getElem? (i := 133) rfl))))) rfl
set_option maxRecDepth 100000 in
theorem kw_614 : Cond.code yX7_findSoul cX7_findSoul 3 (some .int) ∈ xg := xg_in (List.mem_append_right _ (List.mem_append_right _ (List.mem_append_right _ (List.mem_append_left _ (List.mem_of_getElem? (i := 134) rfl))))) rfl
set_option maxRecDepth 100000 in
theorem kw_617 : Cond.instanceMethod yX6_pass ∈ xg := xg_in (List.mem_append_right _ (List.mem_append_right _ (List.mem_append_right _ (List.mem_append_left _ (List.mem_of_getElem? (i := 137) rfl))))) rfl
set_option maxRecDepth 100000 in
theorem kw_618 : Cond.code yX6_pass cX6_pass 1 (some .boolean) ∈ xg := xg_in (List.mem_append_right _ (List.mem_append_right _ (List.mem_append_right _ (List.mem_append_left _ (List.mem_of_getElem? (i := 138) rfl))))) rfl
set_option maxRecDepth 100000 in
theorem kw_62 : Cond.methodLink RJ0 495 yJ1_charAt_3b067 ∈ xg := xg_in (List.mem_append_right _ (List.mem_append_left _ (List.mem_of_getElem? (i := 62) rfl))) rfl
set_option maxRecDepth 100000 in
theorem kw_621 : Cond.instanceMethod yX6_passNumber ∈ xg := xg_in (List.mem_append_right _ (List.mem_append_right _ (List.mem_append_right _ (List.mem_append_left _ (List.mem_of_getElem? (i := 141) rfl))))) rfl
set_option maxRecDepth 100000 in
theorem kw_622 : Cond.code yX6_passNumber cX6_passNumber 3 (some .boolean) ∈ xg := xg_in (List.mem_append_right _ (List.mem_append_right _ (List.mem_append_right _ (List.mem_append_left _ (List.mem_of_getElem? (i := 142) rfl))))) rfl
set_option maxRecDepth 100000 in
theorem kw_623 : Cond.methodLink RX6 84 yX6_refuse ∈ xg := xg_in (List.mem_append_right _ (List.mem_append_right _ (List.mem_append_right _ (List.mem_append_left _ (List.mem_of_getElem? (i := 143) rfl))))) rfl
set_option maxRecDepth 100000 in
theorem kw_626 : Cond.instanceMethod yX7_addName ∈ xg := xg_in (List.mem_append_right _ (List.mem_append_right _ (List.mem_append_right _ (List.mem_append_left _ (List.mem_of_getElem? (i := 146) rfl))))) rfl
set_option maxRecDepth 100000 in
theorem kw_627 : Cond.code yX7_addName cX7_addName 4 none ∈ xg := xg_in (List.mem_append_right _ (List.mem_append_right _ (List.mem_append_right _ (List.mem_append_left _ (List.mem_of_getElem? (i := 147) rfl))))) rfl
set_option maxRecDepth 100000 in
theorem kw_629 : Cond.methodLink RX8 63 yX8_readOfName ∈ xg := xg_in (List.mem_append_right _ (List.mem_append_right _ (List.mem_append_right _ (List.mem_append_left _ (List.mem_of_getElem? (i := 149) rfl))))) rfl
set_option maxRecDepth 100000 in
theorem kw_63 : Cond.static yJ1_charAt_3b067 ∈ xg := xg_in (List.mem_append_right _ (List.mem_append_left _ (List.mem_of_getElem? (i := 63) rfl))) rfl
set_option maxRecDepth 100000 in
theorem kw_631 : Cond.instanceMethod yX8_readOfName ∈ xg := xg_in (List.mem_append_right _ (List.mem_append_right _ (List.mem_append_right _ (List.mem_append_left _ (List.mem_of_getElem? (i := 151) rfl))))) rfl
set_option maxRecDepth 100000 in
theorem kw_632 : Cond.code yX8_readOfName cX8_readOfName 5 (some .boolean) ∈ xg := xg_in (List.mem_append_right _ (List.mem_append_right _ (List.mem_append_right _ (List.mem_append_left _ (List.mem_of_getElem? (i := 152) rfl))))) rfl
set_option maxRecDepth 100000 in
theorem kw_633 : Cond.methodLink RX8 147 yX8_passOnce ∈ xg := xg_in (List.mem_append_right _ (List.mem_append_right _ (List.mem_append_right _ (List.mem_append_left _ (List.mem_of_getElem? (i := 153) rfl))))) rfl
set_option maxRecDepth 100000 in
theorem kw_635 : Cond.instanceMethod yX8_passOnce ∈ xg := xg_in (List.mem_append_right _ (List.mem_append_right _ (List.mem_append_right _ (List.mem_append_left _ (List.mem_of_getElem? (i := 155) rfl))))) rfl
set_option maxRecDepth 100000 in
theorem kw_636 : Cond.code yX8_passOnce cX8_passOnce 4 (some .boolean) ∈ xg := xg_in (List.mem_append_right _ (List.mem_append_right _ (List.mem_append_right _ (List.mem_append_left _ (List.mem_of_getElem? (i := 156) rfl))))) rfl
set_option maxRecDepth 100000 in
theorem kw_639 : Cond.instanceMethod yX6_passKnown ∈ xg := xg_in (List.mem_append_right _ (List.mem_append_right _ (List.mem_append_right _ (List.mem_append_left _ (List.mem_of_getElem? (i := 159) rfl))))) rfl
set_option maxRecDepth 100000 in
theorem kw_64 : Cond.code yJ1_charAt_3b067 cJ1_charAt_3b067 2 (some .char) ∈ xg := xg_in (List.mem_append_right _ (List.mem_append_left _ (List.mem_of_getElem? (i := 64) rfl))) rfl
set_option maxRecDepth 100000 in
theorem kw_640 : Cond.code yX6_passKnown cX6_passKnown 2 (some .boolean) ∈ xg := xg_in (List.mem_append_right _ (List.mem_append_right _ (List.mem_append_right _ (List.mem_append_left _ (List.mem_of_getElem? (i := 160) rfl))))) rfl
set_option maxRecDepth 100000 in
theorem kw_641 : Cond.methodLink RX6 91 yX6_canBeNameOrSoul ∈ xg := xg_in (List.mem_append_right _ (List.mem_append_right _ (List.mem_append_right _ (List.mem_append_left _ (List.mem_of_getElem? (i := 161) rfl))))) rfl
set_option maxRecDepth 100000 in
theorem kw_644 : Cond.methodLink RX8 74 yX8_readSoulLine ∈ xg := xg_in (List.mem_append_right _ (List.mem_append_right _ (List.mem_append_right _ (List.mem_append_left _ (List.mem_of_getElem? (i := 164) rfl))))) rfl
set_option maxRecDepth 100000 in
theorem kw_646 : Cond.instanceMethod yX8_readSoulLine ∈ xg := xg_in (List.mem_append_right _ (List.mem_append_right _ (List.mem_append_right _ (List.mem_append_left _ (List.mem_of_getElem? (i := 166) rfl))))) rfl
set_option maxRecDepth 100000 in
theorem kw_647 : Cond.code yX8_readSoulLine cX8_readSoulLine 3 (some .boolean) ∈ xg := xg_in (List.mem_append_right _ (List.mem_append_right _ (List.mem_append_right _ (List.mem_append_left _ (List.mem_of_getElem? (i := 167) rfl))))) rfl
set_option maxRecDepth 100000 in
theorem kw_65 : Cond.methodLink RJ1 9 yJ0_checkIndex_df160 ∈ xg := xg_in (List.mem_append_right _ (List.mem_append_left _ (List.mem_of_getElem? (i := 65) rfl))) rfl
set_option maxRecDepth 100000 in
theorem kw_650 : Cond.instanceMethod yX7_addSoul ∈ xg := xg_in (List.mem_append_right _ (List.mem_append_right _ (List.mem_append_right _ (List.mem_append_left _ (List.mem_of_getElem? (i := 170) rfl))))) rfl
set_option maxRecDepth 100000 in
theorem kw_651 : Cond.code yX7_addSoul cX7_addSoul 5 none ∈ xg := xg_in (List.mem_append_right _ (List.mem_append_right _ (List.mem_append_right _ (List.mem_append_left _ (List.mem_of_getElem? (i := 171) rfl))))) rfl
set_option maxRecDepth 100000 in
theorem kw_653 : Cond.methodLink RX8 128 yX8_readFirstName ∈ xg := xg_in (List.mem_append_right _ (List.mem_append_right _ (List.mem_append_right _ (List.mem_append_left _ (List.mem_of_getElem? (i := 173) rfl))))) rfl
set_option maxRecDepth 100000 in
theorem kw_655 : Cond.instanceMethod yX8_readFirstName ∈ xg := xg_in (List.mem_append_right _ (List.mem_append_right _ (List.mem_append_right _ (List.mem_append_left _ (List.mem_of_getElem? (i := 175) rfl))))) rfl
set_option maxRecDepth 100000 in
theorem kw_656 : Cond.code yX8_readFirstName cX8_readFirstName 3 (some .boolean) ∈ xg := xg_in (List.mem_append_right _ (List.mem_append_right _ (List.mem_append_right _ (List.mem_append_left _ (List.mem_of_getElem? (i := 176) rfl))))) rfl
set_option maxRecDepth 100000 in
theorem kw_659 : Cond.instanceMethod yX7_isBorneAtFirst ∈ xg := xg_in (List.mem_append_right _ (List.mem_append_right _ (List.mem_append_right _ (List.mem_append_left _ (List.mem_of_getElem? (i := 179) rfl))))) rfl
set_option maxRecDepth 100000 in
theorem kw_66 : Cond.static yJ0_checkIndex_df160 ∈ xg := xg_in (List.mem_append_right _ (List.mem_append_left _ (List.mem_of_getElem? (i := 66) rfl))) rfl
set_option maxRecDepth 100000 in
theorem kw_660 : Cond.code yX7_isBorneAtFirst cX7_isBorneAtFirst 3 (some .boolean) ∈ xg := xg_in (List.mem_append_right _ (List.mem_append_right _ (List.mem_append_right _ (List.mem_append_left _ (List.mem_of_getElem? (i := 180) rfl))))) rfl
set_option maxRecDepth 100000 in
theorem kw_663 : Cond.instanceMethod yX7_isSoul ∈ xg := xg_in (List.mem_append_right _ (List.mem_append_right _ (List.mem_append_right _ (List.mem_append_left _ (List.mem_of_getElem? (i := 183) rfl))))) rfl
set_option maxRecDepth 100000 in
theorem kw_664 : Cond.code yX7_isSoul cX7_isSoul 2 (some .boolean) ∈ xg := xg_in (List.mem_append_right _ (List.mem_append_right _ (List.mem_append_right _ (List.mem_append_left _ (List.mem_of_getElem? (i := 184) rfl))))) rfl
set_option maxRecDepth 100000 in
theorem kw_666 : Cond.methodLink RX8 79 yX8_readWish ∈ xg := xg_in (List.mem_append_right _ (List.mem_append_right _ (List.mem_append_right _ (List.mem_append_left _ (List.mem_of_getElem? (i := 186) rfl))))) rfl
set_option maxRecDepth 100000 in
theorem kw_668 : Cond.instanceMethod yX8_readWish ∈ xg := xg_in (List.mem_append_right _ (List.mem_append_right _ (List.mem_append_right _ (List.mem_append_left _ (List.mem_of_getElem? (i := 188) rfl))))) rfl
set_option maxRecDepth 100000 in
theorem kw_669 : Cond.code yX8_readWish cX8_readWish 2 (some .boolean) ∈ xg := xg_in (List.mem_append_right _ (List.mem_append_right _ (List.mem_append_right _ (List.mem_append_left _ (List.mem_of_getElem? (i := 189) rfl))))) rfl
set_option maxRecDepth 100000 in
theorem kw_67 : Cond.code yJ0_checkIndex_df160 cJ0_checkIndex_df160 2 none ∈ xg := xg_in (List.mem_append_right _ (List.mem_append_left _ (List.mem_of_getElem? (i := 67) rfl))) rfl
set_option maxRecDepth 100000 in
theorem kw_671 : Cond.methodLink RX8 84 yX8_readWorth ∈ xg := xg_in (List.mem_append_right _ (List.mem_append_right _ (List.mem_append_right _ (List.mem_append_left _ (List.mem_of_getElem? (i := 191) rfl))))) rfl
set_option maxRecDepth 100000 in
theorem kw_673 : Cond.instanceMethod yX8_readWorth ∈ xg := xg_in (List.mem_append_right _ (List.mem_append_right _ (List.mem_append_right _ (List.mem_append_left _ (List.mem_of_getElem? (i := 193) rfl))))) rfl
set_option maxRecDepth 100000 in
theorem kw_674 : Cond.code yX8_readWorth cX8_readWorth 3 (some .boolean) ∈ xg := xg_in (List.mem_append_right _ (List.mem_append_right _ (List.mem_append_right _ (List.mem_append_left _ (List.mem_of_getElem? (i := 194) rfl))))) rfl
set_option maxRecDepth 100000 in
theorem kw_677 : Cond.instanceMethod yX7_worthOf ∈ xg := xg_in (List.mem_append_right _ (List.mem_append_right _ (List.mem_append_right _ (List.mem_append_left _ (List.mem_of_getElem? (i := 197) rfl))))) rfl
set_option maxRecDepth 100000 in
theorem kw_678 : Cond.code yX7_worthOf cX7_worthOf 3 (some .int) ∈ xg := xg_in (List.mem_append_right _ (List.mem_append_right _ (List.mem_append_right _ (List.mem_append_left _ (List.mem_of_getElem? (i := 198) rfl))))) rfl
set_option maxRecDepth 100000 in
theorem kw_679 : Cond.methodLink RX7 61 yX7_isSoul ∈ xg := xg_in (List.mem_append_right _ (List.mem_append_right _ (List.mem_append_right _ (List.mem_append_left _ (List.mem_of_getElem? (i := 199) rfl))))) rfl
set_option maxRecDepth 100000 in
theorem kw_68 : Cond.fieldLink RJ0 1053 RJ3 "SIOOBE_FORMATTER" "Ljava/util/function/BiFunction;" ∈ xg := xg_in (List.mem_append_right _ (List.mem_append_left _ (List.mem_of_getElem? (i := 68) rfl))) rfl
set_option maxRecDepth 100000 in
theorem kw_680 : Cond.methodLink RX7 65 yX7_isName ∈ xg := xg_in (List.mem_append_right _ (List.mem_append_right _ (List.mem_append_right _ (List.mem_append_left _ (List.mem_of_getElem? (i := 200) rfl))))) rfl
set_option maxRecDepth 100000 in
theorem kw_682 : Cond.instanceMethod yX7_isName ∈ xg := xg_in (List.mem_append_right _ (List.mem_append_right _ (List.mem_append_right _ (List.mem_append_left _ (List.mem_of_getElem? (i := 202) rfl))))) rfl
set_option maxRecDepth 100000 in
theorem kw_683 : Cond.code yX7_isName cX7_isName 2 (some .boolean) ∈ xg := xg_in (List.mem_append_right _ (List.mem_append_right _ (List.mem_append_right _ (List.mem_append_left _ (List.mem_of_getElem? (i := 203) rfl))))) rfl
set_option maxRecDepth 100000 in
theorem kw_686 : Cond.methodLink RX8 89 yX8_readOld ∈ xg := xg_in (List.mem_append_right _ (List.mem_append_right _ (List.mem_append_right _ (List.mem_append_left _ (List.mem_of_getElem? (i := 206) rfl))))) rfl
set_option maxRecDepth 100000 in
theorem kw_688 : Cond.instanceMethod yX8_readOld ∈ xg := xg_in (List.mem_append_right _ (List.mem_append_right _ (List.mem_append_right _ (List.mem_append_left _ (List.mem_of_getElem? (i := 208) rfl))))) rfl
set_option maxRecDepth 100000 in
theorem kw_689 : Cond.code yX8_readOld cX8_readOld 2 (some .boolean) ∈ xg := xg_in (List.mem_append_right _ (List.mem_append_right _ (List.mem_append_right _ (List.mem_append_left _ (List.mem_of_getElem? (i := 209) rfl))))) rfl
set_option maxRecDepth 100000 in
theorem kw_692 : Cond.instanceMethod yX6_passSign ∈ xg := xg_in (List.mem_append_right _ (List.mem_append_right _ (List.mem_append_right _ (List.mem_append_left _ (List.mem_of_getElem? (i := 212) rfl))))) rfl
set_option maxRecDepth 100000 in
theorem kw_693 : Cond.code yX6_passSign cX6_passSign 2 (some .boolean) ∈ xg := xg_in (List.mem_append_right _ (List.mem_append_right _ (List.mem_append_right _ (List.mem_append_left _ (List.mem_of_getElem? (i := 213) rfl))))) rfl
set_option maxRecDepth 100000 in
theorem kw_694 : Cond.methodLink RX6 76 yX6_isSign ∈ xg := xg_in (List.mem_append_right _ (List.mem_append_right _ (List.mem_append_right _ (List.mem_append_left _ (List.mem_of_getElem? (i := 214) rfl))))) rfl
set_option maxRecDepth 100000 in
theorem kw_696 : Cond.instanceMethod yX6_isSign ∈ xg := xg_in (List.mem_append_right _ (List.mem_append_right _ (List.mem_append_right _ (List.mem_append_left _ (List.mem_of_getElem? (i := 216) rfl))))) rfl
set_option maxRecDepth 100000 in
theorem kw_697 : Cond.code yX6_isSign cX6_isSign 2 (some .boolean) ∈ xg := xg_in (List.mem_append_right _ (List.mem_append_right _ (List.mem_append_right _ (List.mem_append_left _ (List.mem_of_getElem? (i := 217) rfl))))) rfl
set_option maxRecDepth 100000 in
theorem kw_698 : Cond.methodLink RX6 80 yX6_pass ∈ xg := xg_in (List.mem_append_right _ (List.mem_append_right _ (List.mem_append_right _ (List.mem_append_left _ (List.mem_of_getElem? (i := 218) rfl))))) rfl
set_option maxRecDepth 100000 in
theorem kw_7 : Cond.initialized RX7 ∈ xg := xg_in (List.mem_append_right _ (List.mem_append_left _ (List.mem_of_getElem? (i := 7) rfl))) rfl
set_option maxRecDepth 100000 in
theorem kw_70 : Cond.methodLink RJ0 1059 yJ3_checkIndex_8e157 ∈ xg := xg_in (List.mem_append_right _ (List.mem_append_left _ (List.mem_of_getElem? (i := 70) rfl))) rfl
set_option maxRecDepth 100000 in
theorem kw_701 : Cond.instanceMethod yX7_copyFrom ∈ xg := xg_in (List.mem_append_right _ (List.mem_append_right _ (List.mem_append_right _ (List.mem_append_left _ (List.mem_of_getElem? (i := 221) rfl))))) rfl
set_option maxRecDepth 100000 in
theorem kw_702 : Cond.code yX7_copyFrom cX7_copyFrom 2 none ∈ xg := xg_in (List.mem_append_right _ (List.mem_append_right _ (List.mem_append_right _ (List.mem_append_left _ (List.mem_of_getElem? (i := 222) rfl))))) rfl
set_option maxRecDepth 100000 in
theorem kw_704 : Cond.static yX11_copyRow_ ∈ xg := xg_in (List.mem_append_right _ (List.mem_append_right _ (List.mem_append_right _ (List.mem_append_left _ (List.mem_of_getElem? (i := 224) rfl))))) rfl
set_option maxRecDepth 100000 in
theorem kw_705 : Cond.code yX11_copyRow_ cX11_copyRow_ 2 none ∈ xg := xg_in (List.mem_append_right _ (List.mem_append_right _ (List.mem_append_right _ (List.mem_append_left _ (List.mem_of_getElem? (i := 225) rfl))))) rfl
set_option maxRecDepth 100000 in
theorem kw_706 : Cond.methodLink RX11 248 Lib.Math.min.name ∈ xg := xg_in (List.mem_append_right _ (List.mem_append_right _ (List.mem_append_right _ (List.mem_append_left _ (List.mem_of_getElem? (i := 226) rfl))))) rfl
set_option maxRecDepth 100000 in
theorem kw_707 : Cond.static Lib.Math.min.name ∈ xg := xg_in (List.mem_append_right _ (List.mem_append_right _ (List.mem_append_right _ (List.mem_append_left _ (List.mem_of_getElem? (i := 227) rfl))))) rfl
set_option maxRecDepth 100000 in
theorem kw_708 : Cond.code Lib.Math.min.name Lib.Math.min.code 2 (some .int) ∈ xg := xg_in (List.mem_append_right _ (List.mem_append_right _ (List.mem_append_right _ (List.mem_append_left _ (List.mem_of_getElem? (i := 228) rfl))))) rfl
set_option maxRecDepth 100000 in
theorem kw_709 : Cond.methodLink RX11 377 arraycopyName ∈ xg := xg_in (List.mem_append_right _ (List.mem_append_right _ (List.mem_append_right _ (List.mem_append_left _ (List.mem_of_getElem? (i := 229) rfl))))) rfl
set_option maxRecDepth 100000 in
theorem kw_71 : Cond.static yJ3_checkIndex_8e157 ∈ xg := xg_in (List.mem_append_right _ (List.mem_append_left _ (List.mem_of_getElem? (i := 71) rfl))) rfl
set_option maxRecDepth 100000 in
theorem kw_710 : Cond.static arraycopyName ∈ xg := xg_in (List.mem_append_right _ (List.mem_append_right _ (List.mem_append_right _ (List.mem_append_left _ (List.mem_of_getElem? (i := 230) rfl))))) rfl
set_option maxRecDepth 100000 in
theorem kw_711 : Cond.native arraycopyName ∈ xg := xg_in (List.mem_append_right _ (List.mem_append_right _ (List.mem_append_right _ (List.mem_append_left _ (List.mem_of_getElem? (i := 231) rfl))))) rfl
set_option maxRecDepth 100000 in
theorem kw_713 : Cond.static yX11_copyRow ∈ xg := xg_in (List.mem_append_right _ (List.mem_append_right _ (List.mem_append_right _ (List.mem_append_left _ (List.mem_of_getElem? (i := 233) rfl))))) rfl
set_option maxRecDepth 100000 in
theorem kw_714 : Cond.code yX11_copyRow cX11_copyRow 2 none ∈ xg := xg_in (List.mem_append_right _ (List.mem_append_right _ (List.mem_append_right _ (List.mem_append_left _ (List.mem_of_getElem? (i := 234) rfl))))) rfl
set_option maxRecDepth 100000 in
theorem kw_717 : Cond.instanceMethod yX2_begin ∈ xg := xg_in (List.mem_append_right _ (List.mem_append_right _ (List.mem_append_right _ (List.mem_append_left _ (List.mem_of_getElem? (i := 237) rfl))))) rfl
set_option maxRecDepth 100000 in
theorem kw_718 : Cond.code yX2_begin cX2_begin 2 none ∈ xg := xg_in (List.mem_append_right _ (List.mem_append_right _ (List.mem_append_right _ (List.mem_append_left _ (List.mem_of_getElem? (i := 238) rfl))))) rfl
set_option maxRecDepth 100000 in
theorem kw_719 : Cond.methodLink RX2 71 Lib.Math.max.name ∈ xg := xg_in (List.mem_append_right _ (List.mem_append_right _ (List.mem_append_right _ (List.mem_append_left _ (List.mem_of_getElem? (i := 239) rfl))))) rfl
set_option maxRecDepth 100000 in
theorem kw_72 : Cond.code yJ3_checkIndex_8e157 cJ3_checkIndex_8e157 3 (some .int) ∈ xg := xg_in (List.mem_append_right _ (List.mem_append_left _ (List.mem_of_getElem? (i := 72) rfl))) rfl
set_option maxRecDepth 100000 in
theorem kw_720 : Cond.static Lib.Math.max.name ∈ xg := xg_in (List.mem_append_right _ (List.mem_append_right _ (List.mem_append_right _ (List.mem_append_right _ (List.mem_append_left _ (List.mem_of_getElem? (i := 0) rfl)))))) rfl
set_option maxRecDepth 100000 in
theorem kw_721 : Cond.code Lib.Math.max.name Lib.Math.max.code 2 (some .int) ∈ xg := xg_in (List.mem_append_right _ (List.mem_append_right _ (List.mem_append_right _ (List.mem_append_right _ (List.mem_append_left _ (List.mem_of_getElem? (i := 1) rfl)))))) rfl
set_option maxRecDepth 100000 in
theorem kw_723 : Cond.methodLink RX2 87 yX2_give ∈ xg := xg_in (List.mem_append_right _ (List.mem_append_right _ (List.mem_append_right _ (List.mem_append_right _ (List.mem_append_left _ (List.mem_of_getElem? (i := 3) rfl)))))) rfl
set_option maxRecDepth 100000 in
theorem kw_725 : Cond.instanceMethod yX2_give ∈ xg := xg_in (List.mem_append_right _ (List.mem_append_right _ (List.mem_append_right _ (List.mem_append_right _ (List.mem_append_left _ (List.mem_of_getElem? (i := 5) rfl)))))) rfl
set_option maxRecDepth 100000 in
theorem kw_726 : Cond.code yX2_give cX2_give 3 none ∈ xg := xg_in (List.mem_append_right _ (List.mem_append_right _ (List.mem_append_right _ (List.mem_append_right _ (List.mem_append_left _ (List.mem_of_getElem? (i := 6) rfl)))))) rfl
set_option maxRecDepth 100000 in
theorem kw_727 : Cond.methodLink RX2 91 yX2_joinQueue ∈ xg := xg_in (List.mem_append_right _ (List.mem_append_right _ (List.mem_append_right _ (List.mem_append_right _ (List.mem_append_left _ (List.mem_of_getElem? (i := 7) rfl)))))) rfl
set_option maxRecDepth 100000 in
theorem kw_729 : Cond.instanceMethod yX2_joinQueue ∈ xg := xg_in (List.mem_append_right _ (List.mem_append_right _ (List.mem_append_right _ (List.mem_append_right _ (List.mem_append_left _ (List.mem_of_getElem? (i := 9) rfl)))))) rfl
set_option maxRecDepth 100000 in
theorem kw_73 : Cond.methodLink RJ0 498 yJ2_charAt_3b067 ∈ xg := xg_in (List.mem_append_right _ (List.mem_append_left _ (List.mem_of_getElem? (i := 73) rfl))) rfl
set_option maxRecDepth 100000 in
theorem kw_730 : Cond.code yX2_joinQueue cX2_joinQueue 2 none ∈ xg := xg_in (List.mem_append_right _ (List.mem_append_right _ (List.mem_append_right _ (List.mem_append_right _ (List.mem_append_left _ (List.mem_of_getElem? (i := 10) rfl)))))) rfl
set_option maxRecDepth 100000 in
theorem kw_733 : Cond.instanceMethod yX9_forget ∈ xg := xg_in (List.mem_append_right _ (List.mem_append_right _ (List.mem_append_right _ (List.mem_append_right _ (List.mem_append_left _ (List.mem_of_getElem? (i := 13) rfl)))))) rfl
set_option maxRecDepth 100000 in
theorem kw_734 : Cond.code yX9_forget cX9_forget 1 none ∈ xg := xg_in (List.mem_append_right _ (List.mem_append_right _ (List.mem_append_right _ (List.mem_append_right _ (List.mem_append_left _ (List.mem_of_getElem? (i := 14) rfl)))))) rfl
set_option maxRecDepth 100000 in
theorem kw_74 : Cond.static yJ2_charAt_3b067 ∈ xg := xg_in (List.mem_append_right _ (List.mem_append_left _ (List.mem_of_getElem? (i := 74) rfl))) rfl
set_option maxRecDepth 100000 in
theorem kw_746 : Cond.instanceMethod yX2_cost ∈ xg := xg_in (List.mem_append_right _ (List.mem_append_right _ (List.mem_append_right _ (List.mem_append_right _ (List.mem_append_left _ (List.mem_of_getElem? (i := 26) rfl)))))) rfl
set_option maxRecDepth 100000 in
theorem kw_747 : Cond.code yX2_cost cX2_cost 2 (some .int) ∈ xg := xg_in (List.mem_append_right _ (List.mem_append_right _ (List.mem_append_right _ (List.mem_append_right _ (List.mem_append_left _ (List.mem_of_getElem? (i := 27) rfl)))))) rfl
set_option maxRecDepth 100000 in
theorem kw_748 : Cond.methodLink RX2 109 yX2_hangedYet ∈ xg := xg_in (List.mem_append_right _ (List.mem_append_right _ (List.mem_append_right _ (List.mem_append_right _ (List.mem_append_left _ (List.mem_of_getElem? (i := 28) rfl)))))) rfl
set_option maxRecDepth 100000 in
theorem kw_75 : Cond.code yJ2_charAt_3b067 cJ2_charAt_3b067 2 (some .char) ∈ xg := xg_in (List.mem_append_right _ (List.mem_append_left _ (List.mem_of_getElem? (i := 75) rfl))) rfl
set_option maxRecDepth 100000 in
theorem kw_750 : Cond.instanceMethod yX2_hangedYet ∈ xg := xg_in (List.mem_append_right _ (List.mem_append_right _ (List.mem_append_right _ (List.mem_append_right _ (List.mem_append_left _ (List.mem_of_getElem? (i := 30) rfl)))))) rfl
set_option maxRecDepth 100000 in
theorem kw_751 : Cond.code yX2_hangedYet cX2_hangedYet 2 (some .int) ∈ xg := xg_in (List.mem_append_right _ (List.mem_append_right _ (List.mem_append_right _ (List.mem_append_right _ (List.mem_append_left _ (List.mem_of_getElem? (i := 31) rfl)))))) rfl
set_option maxRecDepth 100000 in
theorem kw_754 : Cond.instanceMethod yX2_isSour ∈ xg := xg_in (List.mem_append_right _ (List.mem_append_right _ (List.mem_append_right _ (List.mem_append_right _ (List.mem_append_left _ (List.mem_of_getElem? (i := 34) rfl)))))) rfl
set_option maxRecDepth 100000 in
theorem kw_755 : Cond.code yX2_isSour cX2_isSour 2 (some .boolean) ∈ xg := xg_in (List.mem_append_right _ (List.mem_append_right _ (List.mem_append_right _ (List.mem_append_right _ (List.mem_append_left _ (List.mem_of_getElem? (i := 35) rfl)))))) rfl
set_option maxRecDepth 100000 in
theorem kw_757 : Cond.static yX11_hasBit ∈ xg := xg_in (List.mem_append_right _ (List.mem_append_right _ (List.mem_append_right _ (List.mem_append_right _ (List.mem_append_left _ (List.mem_of_getElem? (i := 37) rfl)))))) rfl
set_option maxRecDepth 100000 in
theorem kw_758 : Cond.code yX11_hasBit cX11_hasBit 2 (some .boolean) ∈ xg := xg_in (List.mem_append_right _ (List.mem_append_right _ (List.mem_append_right _ (List.mem_append_right _ (List.mem_append_left _ (List.mem_of_getElem? (i := 38) rfl)))))) rfl
set_option maxRecDepth 100000 in
theorem kw_76 : Cond.methodLink RJ2 67 yJ2_checkIndex_2214a ∈ xg := xg_in (List.mem_append_right _ (List.mem_append_left _ (List.mem_of_getElem? (i := 76) rfl))) rfl
set_option maxRecDepth 100000 in
theorem kw_77 : Cond.static yJ2_checkIndex_2214a ∈ xg := xg_in (List.mem_append_right _ (List.mem_append_left _ (List.mem_of_getElem? (i := 77) rfl))) rfl
set_option maxRecDepth 100000 in
theorem kw_772 : Cond.instanceMethod yX2_freeNames ∈ xg := xg_in (List.mem_append_right _ (List.mem_append_right _ (List.mem_append_right _ (List.mem_append_right _ (List.mem_append_left _ (List.mem_of_getElem? (i := 52) rfl)))))) rfl
set_option maxRecDepth 100000 in
theorem kw_773 : Cond.code yX2_freeNames cX2_freeNames 3 (some .int) ∈ xg := xg_in (List.mem_append_right _ (List.mem_append_right _ (List.mem_append_right _ (List.mem_append_right _ (List.mem_append_left _ (List.mem_of_getElem? (i := 53) rfl)))))) rfl
set_option maxRecDepth 100000 in
theorem kw_774 : Cond.methodLink RX11 219 yX11_sum ∈ xg := xg_in (List.mem_append_right _ (List.mem_append_right _ (List.mem_append_right _ (List.mem_append_right _ (List.mem_append_left _ (List.mem_of_getElem? (i := 54) rfl)))))) rfl
set_option maxRecDepth 100000 in
theorem kw_775 : Cond.static yX11_sum ∈ xg := xg_in (List.mem_append_right _ (List.mem_append_right _ (List.mem_append_right _ (List.mem_append_right _ (List.mem_append_left _ (List.mem_of_getElem? (i := 55) rfl)))))) rfl
set_option maxRecDepth 100000 in
theorem kw_776 : Cond.code yX11_sum cX11_sum 4 (some .int) ∈ xg := xg_in (List.mem_append_right _ (List.mem_append_right _ (List.mem_append_right _ (List.mem_append_right _ (List.mem_append_left _ (List.mem_of_getElem? (i := 56) rfl)))))) rfl
set_option maxRecDepth 100000 in
theorem kw_78 : Cond.code yJ2_checkIndex_2214a cJ2_checkIndex_2214a 2 none ∈ xg := xg_in (List.mem_append_right _ (List.mem_append_left _ (List.mem_of_getElem? (i := 78) rfl))) rfl
set_option maxRecDepth 100000 in
theorem kw_781 : Cond.methodLink RX11 229 yX11_attempt ∈ xg := xg_in (List.mem_append_right _ (List.mem_append_right _ (List.mem_append_right _ (List.mem_append_right _ (List.mem_append_left _ (List.mem_of_getElem? (i := 61) rfl)))))) rfl
set_option maxRecDepth 100000 in
theorem kw_783 : Cond.instanceMethod yX11_attempt ∈ xg := xg_in (List.mem_append_right _ (List.mem_append_right _ (List.mem_append_right _ (List.mem_append_right _ (List.mem_append_left _ (List.mem_of_getElem? (i := 63) rfl)))))) rfl
set_option maxRecDepth 100000 in
theorem kw_784 : Cond.code yX11_attempt cX11_attempt 5 (some .int) ∈ xg := xg_in (List.mem_append_right _ (List.mem_append_right _ (List.mem_append_right _ (List.mem_append_right _ (List.mem_append_left _ (List.mem_of_getElem? (i := 64) rfl)))))) rfl
set_option maxRecDepth 100000 in
theorem kw_787 : Cond.instanceMethod yX2_whyNot ∈ xg := xg_in (List.mem_append_right _ (List.mem_append_right _ (List.mem_append_right _ (List.mem_append_right _ (List.mem_append_left _ (List.mem_of_getElem? (i := 67) rfl)))))) rfl
set_option maxRecDepth 100000 in
theorem kw_788 : Cond.code yX2_whyNot cX2_whyNot 4 (some .int) ∈ xg := xg_in (List.mem_append_right _ (List.mem_append_right _ (List.mem_append_right _ (List.mem_append_right _ (List.mem_append_left _ (List.mem_of_getElem? (i := 68) rfl)))))) rfl
set_option maxRecDepth 100000 in
theorem kw_789 : Cond.methodLink RX2 119 yX2_whyNotTake ∈ xg := xg_in (List.mem_append_right _ (List.mem_append_right _ (List.mem_append_right _ (List.mem_append_right _ (List.mem_append_left _ (List.mem_of_getElem? (i := 69) rfl)))))) rfl
set_option maxRecDepth 100000 in
theorem kw_79 : Cond.methodLink RJ2 48 yJ2_length_9d52b ∈ xg := xg_in (List.mem_append_right _ (List.mem_append_left _ (List.mem_of_getElem? (i := 79) rfl))) rfl
set_option maxRecDepth 100000 in
theorem kw_791 : Cond.instanceMethod yX2_whyNotTake ∈ xg := xg_in (List.mem_append_right _ (List.mem_append_right _ (List.mem_append_right _ (List.mem_append_right _ (List.mem_append_left _ (List.mem_of_getElem? (i := 71) rfl)))))) rfl
set_option maxRecDepth 100000 in
theorem kw_792 : Cond.code yX2_whyNotTake cX2_whyNotTake 3 (some .int) ∈ xg := xg_in (List.mem_append_right _ (List.mem_append_right _ (List.mem_append_right _ (List.mem_append_right _ (List.mem_append_left _ (List.mem_of_getElem? (i := 72) rfl)))))) rfl
set_option maxRecDepth 100000 in
theorem kw_793 : Cond.methodLink RX2 106 yX2_isAlive ∈ xg := xg_in (List.mem_append_right _ (List.mem_append_right _ (List.mem_append_right _ (List.mem_append_right _ (List.mem_append_left _ (List.mem_of_getElem? (i := 73) rfl)))))) rfl
set_option maxRecDepth 100000 in
theorem kw_795 : Cond.instanceMethod yX2_isAlive ∈ xg := xg_in (List.mem_append_right _ (List.mem_append_right _ (List.mem_append_right _ (List.mem_append_right _ (List.mem_append_left _ (List.mem_of_getElem? (i := 75) rfl)))))) rfl
set_option maxRecDepth 100000 in
theorem kw_796 : Cond.code yX2_isAlive cX2_isAlive 2 (some .boolean) ∈ xg := xg_in (List.mem_append_right _ (List.mem_append_right _ (List.mem_append_right _ (List.mem_append_right _ (List.mem_append_left _ (List.mem_of_getElem? (i := 76) rfl)))))) rfl
set_option maxRecDepth 100000 in
theorem kw_797 : Cond.methodLink RX2 156 yX2_isSour ∈ xg := xg_in (List.mem_append_right _ (List.mem_append_right _ (List.mem_append_right _ (List.mem_append_right _ (List.mem_append_left _ (List.mem_of_getElem? (i := 77) rfl)))))) rfl
set_option maxRecDepth 100000 in
theorem kw_798 : Cond.methodLink RX2 159 yX2_waitAhead ∈ xg := xg_in (List.mem_append_right _ (List.mem_append_right _ (List.mem_append_right _ (List.mem_append_right _ (List.mem_append_left _ (List.mem_of_getElem? (i := 78) rfl)))))) rfl
set_option maxRecDepth 100000 in
theorem kw_8 : Cond.initialized RX8 ∈ xg := xg_in (List.mem_append_right _ (List.mem_append_left _ (List.mem_of_getElem? (i := 8) rfl))) rfl
set_option maxRecDepth 100000 in
theorem kw_80 : Cond.static yJ2_length_9d52b ∈ xg := xg_in (List.mem_append_right _ (List.mem_append_left _ (List.mem_of_getElem? (i := 80) rfl))) rfl
set_option maxRecDepth 100000 in
theorem kw_800 : Cond.instanceMethod yX2_waitAhead ∈ xg := xg_in (List.mem_append_right _ (List.mem_append_right _ (List.mem_append_right _ (List.mem_append_right _ (List.mem_append_left _ (List.mem_of_getElem? (i := 80) rfl)))))) rfl
set_option maxRecDepth 100000 in
theorem kw_801 : Cond.code yX2_waitAhead cX2_waitAhead 3 (some .int) ∈ xg := xg_in (List.mem_append_right _ (List.mem_append_right _ (List.mem_append_right _ (List.mem_append_right _ (List.mem_append_left _ (List.mem_of_getElem? (i := 81) rfl)))))) rfl
set_option maxRecDepth 100000 in
theorem kw_802 : Cond.methodLink RX2 162 yX2_cost ∈ xg := xg_in (List.mem_append_right _ (List.mem_append_right _ (List.mem_append_right _ (List.mem_append_right _ (List.mem_append_left _ (List.mem_of_getElem? (i := 82) rfl)))))) rfl
set_option maxRecDepth 100000 in
theorem kw_803 : Cond.methodLink RX2 122 yX2_whyNotSwap ∈ xg := xg_in (List.mem_append_right _ (List.mem_append_right _ (List.mem_append_right _ (List.mem_append_right _ (List.mem_append_left _ (List.mem_of_getElem? (i := 83) rfl)))))) rfl
set_option maxRecDepth 100000 in
theorem kw_805 : Cond.instanceMethod yX2_whyNotSwap ∈ xg := xg_in (List.mem_append_right _ (List.mem_append_right _ (List.mem_append_right _ (List.mem_append_right _ (List.mem_append_left _ (List.mem_of_getElem? (i := 85) rfl)))))) rfl
set_option maxRecDepth 100000 in
theorem kw_806 : Cond.code yX2_whyNotSwap cX2_whyNotSwap 3 (some .int) ∈ xg := xg_in (List.mem_append_right _ (List.mem_append_right _ (List.mem_append_right _ (List.mem_append_right _ (List.mem_append_left _ (List.mem_of_getElem? (i := 86) rfl)))))) rfl
set_option maxRecDepth 100000 in
theorem kw_807 : Cond.methodLink RX2 165 yX2_hasChanged ∈ xg := xg_in (List.mem_append_right _ (List.mem_append_right _ (List.mem_append_right _ (List.mem_append_right _ (List.mem_append_left _ (List.mem_of_getElem? (i := 87) rfl)))))) rfl
set_option maxRecDepth 100000 in
theorem kw_809 : Cond.instanceMethod yX2_hasChanged ∈ xg := xg_in (List.mem_append_right _ (List.mem_append_right _ (List.mem_append_right _ (List.mem_append_right _ (List.mem_append_left _ (List.mem_of_getElem? (i := 89) rfl)))))) rfl
set_option maxRecDepth 100000 in
theorem kw_81 : Cond.code yJ2_length_9d52b cJ2_length_9d52b 1 (some .int) ∈ xg := xg_in (List.mem_append_right _ (List.mem_append_left _ (List.mem_of_getElem? (i := 81) rfl))) rfl
set_option maxRecDepth 100000 in
theorem kw_810 : Cond.code yX2_hasChanged cX2_hasChanged 2 (some .boolean) ∈ xg := xg_in (List.mem_append_right _ (List.mem_append_right _ (List.mem_append_right _ (List.mem_append_right _ (List.mem_append_left _ (List.mem_of_getElem? (i := 90) rfl)))))) rfl
set_option maxRecDepth 100000 in
theorem kw_811 : Cond.methodLink RX2 125 yX2_whyNotSell ∈ xg := xg_in (List.mem_append_right _ (List.mem_append_right _ (List.mem_append_right _ (List.mem_append_right _ (List.mem_append_left _ (List.mem_of_getElem? (i := 91) rfl)))))) rfl
set_option maxRecDepth 100000 in
theorem kw_813 : Cond.instanceMethod yX2_whyNotSell ∈ xg := xg_in (List.mem_append_right _ (List.mem_append_right _ (List.mem_append_right _ (List.mem_append_right _ (List.mem_append_left _ (List.mem_of_getElem? (i := 93) rfl)))))) rfl
set_option maxRecDepth 100000 in
theorem kw_814 : Cond.code yX2_whyNotSell cX2_whyNotSell 3 (some .int) ∈ xg := xg_in (List.mem_append_right _ (List.mem_append_right _ (List.mem_append_right _ (List.mem_append_right _ (List.mem_append_left _ (List.mem_of_getElem? (i := 94) rfl)))))) rfl
set_option maxRecDepth 100000 in
theorem kw_815 : Cond.methodLink RX2 128 yX2_whyNotFlee ∈ xg := xg_in (List.mem_append_right _ (List.mem_append_right _ (List.mem_append_right _ (List.mem_append_right _ (List.mem_append_left _ (List.mem_of_getElem? (i := 95) rfl)))))) rfl
set_option maxRecDepth 100000 in
theorem kw_817 : Cond.instanceMethod yX2_whyNotFlee ∈ xg := xg_in (List.mem_append_right _ (List.mem_append_right _ (List.mem_append_right _ (List.mem_append_right _ (List.mem_append_left _ (List.mem_of_getElem? (i := 97) rfl)))))) rfl
set_option maxRecDepth 100000 in
theorem kw_818 : Cond.code yX2_whyNotFlee cX2_whyNotFlee 2 (some .int) ∈ xg := xg_in (List.mem_append_right _ (List.mem_append_right _ (List.mem_append_right _ (List.mem_append_right _ (List.mem_append_left _ (List.mem_of_getElem? (i := 98) rfl)))))) rfl
set_option maxRecDepth 100000 in
theorem kw_819 : Cond.methodLink RX2 131 yX2_whyNotPay ∈ xg := xg_in (List.mem_append_right _ (List.mem_append_right _ (List.mem_append_right _ (List.mem_append_right _ (List.mem_append_left _ (List.mem_of_getElem? (i := 99) rfl)))))) rfl
set_option maxRecDepth 100000 in
theorem kw_82 : Cond.methodLink RJ2 414 yJ0_checkIndex_df160 ∈ xg := xg_in (List.mem_append_right _ (List.mem_append_left _ (List.mem_of_getElem? (i := 82) rfl))) rfl
set_option maxRecDepth 100000 in
theorem kw_821 : Cond.instanceMethod yX2_whyNotPay ∈ xg := xg_in (List.mem_append_right _ (List.mem_append_right _ (List.mem_append_right _ (List.mem_append_right _ (List.mem_append_left _ (List.mem_of_getElem? (i := 101) rfl)))))) rfl
set_option maxRecDepth 100000 in
theorem kw_822 : Cond.code yX2_whyNotPay cX2_whyNotPay 3 (some .int) ∈ xg := xg_in (List.mem_append_right _ (List.mem_append_right _ (List.mem_append_right _ (List.mem_append_right _ (List.mem_append_left _ (List.mem_of_getElem? (i := 102) rfl)))))) rfl
set_option maxRecDepth 100000 in
theorem kw_823 : Cond.methodLink RX2 168 yX2_owed ∈ xg := xg_in (List.mem_append_right _ (List.mem_append_right _ (List.mem_append_right _ (List.mem_append_right _ (List.mem_append_left _ (List.mem_of_getElem? (i := 103) rfl)))))) rfl
set_option maxRecDepth 100000 in
theorem kw_825 : Cond.instanceMethod yX2_owed ∈ xg := xg_in (List.mem_append_right _ (List.mem_append_right _ (List.mem_append_right _ (List.mem_append_right _ (List.mem_append_left _ (List.mem_of_getElem? (i := 105) rfl)))))) rfl
set_option maxRecDepth 100000 in
theorem kw_826 : Cond.code yX2_owed cX2_owed 3 (some .int) ∈ xg := xg_in (List.mem_append_right _ (List.mem_append_right _ (List.mem_append_right _ (List.mem_append_right _ (List.mem_append_left _ (List.mem_of_getElem? (i := 106) rfl)))))) rfl
set_option maxRecDepth 100000 in
theorem kw_829 : Cond.instanceMethod yX9_keep ∈ xg := xg_in (List.mem_append_right _ (List.mem_append_right _ (List.mem_append_right _ (List.mem_append_right _ (List.mem_append_left _ (List.mem_of_getElem? (i := 109) rfl)))))) rfl
set_option maxRecDepth 100000 in
theorem kw_83 : Cond.methodLink RJ2 71 yJ2_getChar_3b067 ∈ xg := xg_in (List.mem_append_right _ (List.mem_append_left _ (List.mem_of_getElem? (i := 83) rfl))) rfl
set_option maxRecDepth 100000 in
theorem kw_830 : Cond.code yX9_keep cX9_keep 2 none ∈ xg := xg_in (List.mem_append_right _ (List.mem_append_right _ (List.mem_append_right _ (List.mem_append_right _ (List.mem_append_left _ (List.mem_of_getElem? (i := 110) rfl)))))) rfl
set_option maxRecDepth 100000 in
theorem kw_833 : Cond.instanceMethod yX2_copyFrom ∈ xg := xg_in (List.mem_append_right _ (List.mem_append_right _ (List.mem_append_right _ (List.mem_append_right _ (List.mem_append_left _ (List.mem_of_getElem? (i := 113) rfl)))))) rfl
set_option maxRecDepth 100000 in
theorem kw_834 : Cond.code yX2_copyFrom cX2_copyFrom 2 none ∈ xg := xg_in (List.mem_append_right _ (List.mem_append_right _ (List.mem_append_right _ (List.mem_append_right _ (List.mem_append_left _ (List.mem_of_getElem? (i := 114) rfl)))))) rfl
set_option maxRecDepth 100000 in
theorem kw_837 : Cond.methodLink RX9 29 Lib.Math.min.name ∈ xg := xg_in (List.mem_append_right _ (List.mem_append_right _ (List.mem_append_right _ (List.mem_append_right _ (List.mem_append_left _ (List.mem_of_getElem? (i := 117) rfl)))))) rfl
set_option maxRecDepth 100000 in
theorem kw_84 : Cond.static yJ2_getChar_3b067 ∈ xg := xg_in (List.mem_append_right _ (List.mem_append_left _ (List.mem_of_getElem? (i := 84) rfl))) rfl
set_option maxRecDepth 100000 in
theorem kw_840 : Cond.instanceMethod yX2_act ∈ xg := xg_in (List.mem_append_right _ (List.mem_append_right _ (List.mem_append_right _ (List.mem_append_right _ (List.mem_append_left _ (List.mem_of_getElem? (i := 120) rfl)))))) rfl
set_option maxRecDepth 100000 in
theorem kw_841 : Cond.code yX2_act cX2_act 4 none ∈ xg := xg_in (List.mem_append_right _ (List.mem_append_right _ (List.mem_append_right _ (List.mem_append_right _ (List.mem_append_left _ (List.mem_of_getElem? (i := 121) rfl)))))) rfl
set_option maxRecDepth 100000 in
theorem kw_842 : Cond.methodLink RX2 134 yX2_buyFree ∈ xg := xg_in (List.mem_append_right _ (List.mem_append_right _ (List.mem_append_right _ (List.mem_append_right _ (List.mem_append_left _ (List.mem_of_getElem? (i := 122) rfl)))))) rfl
set_option maxRecDepth 100000 in
theorem kw_844 : Cond.instanceMethod yX2_buyFree ∈ xg := xg_in (List.mem_append_right _ (List.mem_append_right _ (List.mem_append_right _ (List.mem_append_right _ (List.mem_append_left _ (List.mem_of_getElem? (i := 124) rfl)))))) rfl
set_option maxRecDepth 100000 in
theorem kw_845 : Cond.code yX2_buyFree cX2_buyFree 3 none ∈ xg := xg_in (List.mem_append_right _ (List.mem_append_right _ (List.mem_append_right _ (List.mem_append_right _ (List.mem_append_left _ (List.mem_of_getElem? (i := 125) rfl)))))) rfl
set_option maxRecDepth 100000 in
theorem kw_846 : Cond.methodLink RX2 171 yX2_leaveQueue ∈ xg := xg_in (List.mem_append_right _ (List.mem_append_right _ (List.mem_append_right _ (List.mem_append_right _ (List.mem_append_left _ (List.mem_of_getElem? (i := 126) rfl)))))) rfl
set_option maxRecDepth 100000 in
theorem kw_848 : Cond.instanceMethod yX2_leaveQueue ∈ xg := xg_in (List.mem_append_right _ (List.mem_append_right _ (List.mem_append_right _ (List.mem_append_right _ (List.mem_append_left _ (List.mem_of_getElem? (i := 128) rfl)))))) rfl
set_option maxRecDepth 100000 in
theorem kw_849 : Cond.code yX2_leaveQueue cX2_leaveQueue 3 none ∈ xg := xg_in (List.mem_append_right _ (List.mem_append_right _ (List.mem_append_right _ (List.mem_append_right _ (List.mem_append_left _ (List.mem_of_getElem? (i := 129) rfl)))))) rfl
set_option maxRecDepth 100000 in
theorem kw_85 : Cond.code yJ2_getChar_3b067 cJ2_getChar_3b067 2 (some .char) ∈ xg := xg_in (List.mem_append_right _ (List.mem_append_left _ (List.mem_of_getElem? (i := 85) rfl))) rfl
set_option maxRecDepth 100000 in
theorem kw_850 : Cond.methodLink RX2 182 arraycopyName ∈ xg := xg_in (List.mem_append_right _ (List.mem_append_right _ (List.mem_append_right _ (List.mem_append_right _ (List.mem_append_left _ (List.mem_of_getElem? (i := 130) rfl)))))) rfl
set_option maxRecDepth 100000 in
theorem kw_851 : Cond.methodLink RX2 137 yX2_exchange ∈ xg := xg_in (List.mem_append_right _ (List.mem_append_right _ (List.mem_append_right _ (List.mem_append_right _ (List.mem_append_left _ (List.mem_of_getElem? (i := 131) rfl)))))) rfl
set_option maxRecDepth 100000 in
theorem kw_853 : Cond.instanceMethod yX2_exchange ∈ xg := xg_in (List.mem_append_right _ (List.mem_append_right _ (List.mem_append_right _ (List.mem_append_right _ (List.mem_append_left _ (List.mem_of_getElem? (i := 133) rfl)))))) rfl
set_option maxRecDepth 100000 in
theorem kw_854 : Cond.code yX2_exchange cX2_exchange 4 none ∈ xg := xg_in (List.mem_append_right _ (List.mem_append_right _ (List.mem_append_right _ (List.mem_append_right _ (List.mem_append_left _ (List.mem_of_getElem? (i := 134) rfl)))))) rfl
set_option maxRecDepth 100000 in
theorem kw_855 : Cond.methodLink RX2 140 yX2_handOver ∈ xg := xg_in (List.mem_append_right _ (List.mem_append_right _ (List.mem_append_right _ (List.mem_append_right _ (List.mem_append_left _ (List.mem_of_getElem? (i := 135) rfl)))))) rfl
set_option maxRecDepth 100000 in
theorem kw_857 : Cond.instanceMethod yX2_handOver ∈ xg := xg_in (List.mem_append_right _ (List.mem_append_right _ (List.mem_append_right _ (List.mem_append_right _ (List.mem_append_left _ (List.mem_of_getElem? (i := 137) rfl)))))) rfl
set_option maxRecDepth 100000 in
theorem kw_858 : Cond.code yX2_handOver cX2_handOver 4 none ∈ xg := xg_in (List.mem_append_right _ (List.mem_append_right _ (List.mem_append_right _ (List.mem_append_right _ (List.mem_append_left _ (List.mem_of_getElem? (i := 138) rfl)))))) rfl
set_option maxRecDepth 100000 in
theorem kw_859 : Cond.methodLink RX2 143 yX2_runAway ∈ xg := xg_in (List.mem_append_right _ (List.mem_append_right _ (List.mem_append_right _ (List.mem_append_right _ (List.mem_append_left _ (List.mem_of_getElem? (i := 139) rfl)))))) rfl
set_option maxRecDepth 100000 in
theorem kw_86 : Cond.fieldLink RJ2 44 RJ2 "$assertionsDisabled" "Z" ∈ xg := xg_in (List.mem_append_right _ (List.mem_append_left _ (List.mem_of_getElem? (i := 86) rfl))) rfl
set_option maxRecDepth 100000 in
theorem kw_861 : Cond.instanceMethod yX2_runAway ∈ xg := xg_in (List.mem_append_right _ (List.mem_append_right _ (List.mem_append_right _ (List.mem_append_right _ (List.mem_append_left _ (List.mem_of_getElem? (i := 141) rfl)))))) rfl
set_option maxRecDepth 100000 in
theorem kw_862 : Cond.code yX2_runAway cX2_runAway 2 none ∈ xg := xg_in (List.mem_append_right _ (List.mem_append_right _ (List.mem_append_right _ (List.mem_append_right _ (List.mem_append_left _ (List.mem_of_getElem? (i := 142) rfl)))))) rfl
set_option maxRecDepth 100000 in
theorem kw_863 : Cond.methodLink RX2 174 yX2_loseName ∈ xg := xg_in (List.mem_append_right _ (List.mem_append_right _ (List.mem_append_right _ (List.mem_append_right _ (List.mem_append_left _ (List.mem_of_getElem? (i := 143) rfl)))))) rfl
set_option maxRecDepth 100000 in
theorem kw_865 : Cond.instanceMethod yX2_loseName ∈ xg := xg_in (List.mem_append_right _ (List.mem_append_right _ (List.mem_append_right _ (List.mem_append_right _ (List.mem_append_left _ (List.mem_of_getElem? (i := 145) rfl)))))) rfl
set_option maxRecDepth 100000 in
theorem kw_866 : Cond.code yX2_loseName cX2_loseName 2 none ∈ xg := xg_in (List.mem_append_right _ (List.mem_append_right _ (List.mem_append_right _ (List.mem_append_right _ (List.mem_append_left _ (List.mem_of_getElem? (i := 146) rfl)))))) rfl
set_option maxRecDepth 100000 in
theorem kw_867 : Cond.methodLink RX2 146 yX2_payOff ∈ xg := xg_in (List.mem_append_right _ (List.mem_append_right _ (List.mem_append_right _ (List.mem_append_right _ (List.mem_append_left _ (List.mem_of_getElem? (i := 147) rfl)))))) rfl
set_option maxRecDepth 100000 in
theorem kw_869 : Cond.instanceMethod yX2_payOff ∈ xg := xg_in (List.mem_append_right _ (List.mem_append_right _ (List.mem_append_right _ (List.mem_append_right _ (List.mem_append_left _ (List.mem_of_getElem? (i := 149) rfl)))))) rfl
set_option maxRecDepth 100000 in
theorem kw_870 : Cond.code yX2_payOff cX2_payOff 3 none ∈ xg := xg_in (List.mem_append_right _ (List.mem_append_right _ (List.mem_append_right _ (List.mem_append_right _ (List.mem_append_left _ (List.mem_of_getElem? (i := 150) rfl)))))) rfl
set_option maxRecDepth 100000 in
theorem kw_871 : Cond.methodLink RX2 149 yX2_passMondays ∈ xg := xg_in (List.mem_append_right _ (List.mem_append_right _ (List.mem_append_right _ (List.mem_append_right _ (List.mem_append_left _ (List.mem_of_getElem? (i := 151) rfl)))))) rfl
set_option maxRecDepth 100000 in
theorem kw_873 : Cond.instanceMethod yX2_passMondays ∈ xg := xg_in (List.mem_append_right _ (List.mem_append_right _ (List.mem_append_right _ (List.mem_append_right _ (List.mem_append_left _ (List.mem_of_getElem? (i := 153) rfl)))))) rfl
set_option maxRecDepth 100000 in
theorem kw_874 : Cond.code yX2_passMondays cX2_passMondays 3 none ∈ xg := xg_in (List.mem_append_right _ (List.mem_append_right _ (List.mem_append_right _ (List.mem_append_right _ (List.mem_append_left _ (List.mem_of_getElem? (i := 154) rfl)))))) rfl
set_option maxRecDepth 100000 in
theorem kw_875 : Cond.methodLink RX2 188 yX2_endMonday ∈ xg := xg_in (List.mem_append_right _ (List.mem_append_right _ (List.mem_append_right _ (List.mem_append_right _ (List.mem_append_left _ (List.mem_of_getElem? (i := 155) rfl)))))) rfl
set_option maxRecDepth 100000 in
theorem kw_877 : Cond.instanceMethod yX2_endMonday ∈ xg := xg_in (List.mem_append_right _ (List.mem_append_right _ (List.mem_append_right _ (List.mem_append_right _ (List.mem_append_left _ (List.mem_of_getElem? (i := 157) rfl)))))) rfl
set_option maxRecDepth 100000 in
theorem kw_878 : Cond.code yX2_endMonday cX2_endMonday 4 none ∈ xg := xg_in (List.mem_append_right _ (List.mem_append_right _ (List.mem_append_right _ (List.mem_append_right _ (List.mem_append_left _ (List.mem_of_getElem? (i := 158) rfl)))))) rfl
set_option maxRecDepth 100000 in
theorem kw_88 : Cond.fieldLink RJ2 59 RJ2 "HI_BYTE_SHIFT" "I" ∈ xg := xg_in (List.mem_append_right _ (List.mem_append_left _ (List.mem_of_getElem? (i := 88) rfl))) rfl
set_option maxRecDepth 100000 in
theorem kw_881 : Cond.instanceMethod yX7_isFeast ∈ xg := xg_in (List.mem_append_right _ (List.mem_append_right _ (List.mem_append_right _ (List.mem_append_right _ (List.mem_append_left _ (List.mem_of_getElem? (i := 161) rfl)))))) rfl
set_option maxRecDepth 100000 in
theorem kw_882 : Cond.code yX7_isFeast cX7_isFeast 3 (some .boolean) ∈ xg := xg_in (List.mem_append_right _ (List.mem_append_right _ (List.mem_append_right _ (List.mem_append_right _ (List.mem_append_left _ (List.mem_of_getElem? (i := 162) rfl)))))) rfl
set_option maxRecDepth 100000 in
theorem kw_883 : Cond.methodLink RX2 194 yX2_feast ∈ xg := xg_in (List.mem_append_right _ (List.mem_append_right _ (List.mem_append_right _ (List.mem_append_right _ (List.mem_append_left _ (List.mem_of_getElem? (i := 163) rfl)))))) rfl
set_option maxRecDepth 100000 in
theorem kw_885 : Cond.instanceMethod yX2_feast ∈ xg := xg_in (List.mem_append_right _ (List.mem_append_right _ (List.mem_append_right _ (List.mem_append_right _ (List.mem_append_left _ (List.mem_of_getElem? (i := 165) rfl)))))) rfl
set_option maxRecDepth 100000 in
theorem kw_886 : Cond.code yX2_feast cX2_feast 2 none ∈ xg := xg_in (List.mem_append_right _ (List.mem_append_right _ (List.mem_append_right _ (List.mem_append_right _ (List.mem_append_left _ (List.mem_of_getElem? (i := 166) rfl)))))) rfl
set_option maxRecDepth 100000 in
theorem kw_887 : Cond.methodLink RX2 152 yX2_perish ∈ xg := xg_in (List.mem_append_right _ (List.mem_append_right _ (List.mem_append_right _ (List.mem_append_right _ (List.mem_append_left _ (List.mem_of_getElem? (i := 167) rfl)))))) rfl
set_option maxRecDepth 100000 in
theorem kw_889 : Cond.instanceMethod yX2_perish ∈ xg := xg_in (List.mem_append_right _ (List.mem_append_right _ (List.mem_append_right _ (List.mem_append_right _ (List.mem_append_left _ (List.mem_of_getElem? (i := 169) rfl)))))) rfl
set_option maxRecDepth 100000 in
theorem kw_890 : Cond.code yX2_perish cX2_perish 4 none ∈ xg := xg_in (List.mem_append_right _ (List.mem_append_right _ (List.mem_append_right _ (List.mem_append_right _ (List.mem_append_left _ (List.mem_of_getElem? (i := 170) rfl)))))) rfl
set_option maxRecDepth 100000 in
theorem kw_895 : Cond.methodLink RX11 233 yX11_areTwo ∈ xg := xg_in (List.mem_append_right _ (List.mem_append_right _ (List.mem_append_right _ (List.mem_append_right _ (List.mem_append_left _ (List.mem_of_getElem? (i := 175) rfl)))))) rfl
set_option maxRecDepth 100000 in
theorem kw_897 : Cond.instanceMethod yX11_areTwo ∈ xg := xg_in (List.mem_append_right _ (List.mem_append_right _ (List.mem_append_right _ (List.mem_append_right _ (List.mem_append_left _ (List.mem_of_getElem? (i := 177) rfl)))))) rfl
set_option maxRecDepth 100000 in
theorem kw_898 : Cond.code yX11_areTwo cX11_areTwo 3 (some .boolean) ∈ xg := xg_in (List.mem_append_right _ (List.mem_append_right _ (List.mem_append_right _ (List.mem_append_right _ (List.mem_append_left _ (List.mem_of_getElem? (i := 178) rfl)))))) rfl
set_option maxRecDepth 100000 in
theorem kw_9 : Cond.initialized RX2 ∈ xg := xg_in (List.mem_append_right _ (List.mem_append_left _ (List.mem_of_getElem? (i := 9) rfl))) rfl
set_option maxRecDepth 100000 in
theorem kw_90 : Cond.fieldLink RJ2 63 RJ2 "LO_BYTE_SHIFT" "I" ∈ xg := xg_in (List.mem_append_right _ (List.mem_append_left _ (List.mem_of_getElem? (i := 90) rfl))) rfl
set_option maxRecDepth 100000 in
theorem kw_921 : Cond.instanceMethod yX2_drawLot ∈ xg := xg_in (List.mem_append_right _ (List.mem_append_right _ (List.mem_append_right _ (List.mem_append_right _ (List.mem_append_left _ (List.mem_of_getElem? (i := 201) rfl)))))) rfl
set_option maxRecDepth 100000 in
theorem kw_922 : Cond.code yX2_drawLot cX2_drawLot 5 (some .int) ∈ xg := xg_in (List.mem_append_right _ (List.mem_append_right _ (List.mem_append_right _ (List.mem_append_right _ (List.mem_append_left _ (List.mem_of_getElem? (i := 202) rfl)))))) rfl
set_option maxRecDepth 100000 in
theorem kw_925 : Cond.instanceMethod yX0_next ∈ xg := xg_in (List.mem_append_right _ (List.mem_append_right _ (List.mem_append_right _ (List.mem_append_right _ (List.mem_append_left _ (List.mem_of_getElem? (i := 205) rfl)))))) rfl
set_option maxRecDepth 100000 in
theorem kw_926 : Cond.code yX0_next cX0_next 2 (some .int) ∈ xg := xg_in (List.mem_append_right _ (List.mem_append_right _ (List.mem_append_right _ (List.mem_append_right _ (List.mem_append_left _ (List.mem_of_getElem? (i := 206) rfl)))))) rfl
set_option maxRecDepth 100000 in
theorem kw_927 : Cond.constant RX0 13 (1103515245) ∈ xg := xg_in (List.mem_append_right _ (List.mem_append_right _ (List.mem_append_right _ (List.mem_append_right _ (List.mem_append_left _ (List.mem_of_getElem? (i := 207) rfl)))))) rfl
set_option maxRecDepth 100000 in
theorem kw_939 : Cond.instanceMethod yX9_takeBack ∈ xg := xg_in (List.mem_append_right _ (List.mem_append_right _ (List.mem_append_right _ (List.mem_append_right _ (List.mem_append_left _ (List.mem_of_getElem? (i := 219) rfl)))))) rfl
set_option maxRecDepth 100000 in
theorem kw_94 : Cond.fieldLink RX6 11 RX6 "bytes" "[B" ∈ xg := xg_in (List.mem_append_right _ (List.mem_append_left _ (List.mem_of_getElem? (i := 94) rfl))) rfl
set_option maxRecDepth 100000 in
theorem kw_940 : Cond.code yX9_takeBack cX9_takeBack 2 (some .boolean) ∈ xg := xg_in (List.mem_append_right _ (List.mem_append_right _ (List.mem_append_right _ (List.mem_append_right _ (List.mem_append_left _ (List.mem_of_getElem? (i := 220) rfl)))))) rfl
set_option maxRecDepth 100000 in
theorem kw_947 : Cond.instanceMethod yX2_hasGone ∈ xg := xg_in (List.mem_append_right _ (List.mem_append_right _ (List.mem_append_right _ (List.mem_append_right _ (List.mem_append_left _ (List.mem_of_getElem? (i := 227) rfl)))))) rfl
set_option maxRecDepth 100000 in
theorem kw_948 : Cond.code yX2_hasGone cX2_hasGone 2 (some .boolean) ∈ xg := xg_in (List.mem_append_right _ (List.mem_append_right _ (List.mem_append_right _ (List.mem_append_right _ (List.mem_append_left _ (List.mem_of_getElem? (i := 228) rfl)))))) rfl
set_option maxRecDepth 100000 in
theorem kw_95 : Cond.fieldLink RX6 15 RX6 "ownWords" "[J" ∈ xg := xg_in (List.mem_append_right _ (List.mem_append_left _ (List.mem_of_getElem? (i := 95) rfl))) rfl
set_option maxRecDepth 100000 in
theorem kw_951 : Cond.instanceMethod yX2_calledThen ∈ xg := xg_in (List.mem_append_right _ (List.mem_append_right _ (List.mem_append_right _ (List.mem_append_right _ (List.mem_append_left _ (List.mem_of_getElem? (i := 231) rfl)))))) rfl
set_option maxRecDepth 100000 in
theorem kw_952 : Cond.code yX2_calledThen cX2_calledThen 3 (some .int) ∈ xg := xg_in (List.mem_append_right _ (List.mem_append_right _ (List.mem_append_right _ (List.mem_append_right _ (List.mem_append_left _ (List.mem_of_getElem? (i := 232) rfl)))))) rfl
set_option maxRecDepth 100000 in
theorem kw_953 : Cond.methodLink RX2 215 yX2_hasGone ∈ xg := xg_in (List.mem_append_right _ (List.mem_append_right _ (List.mem_append_right _ (List.mem_append_right _ (List.mem_append_left _ (List.mem_of_getElem? (i := 233) rfl)))))) rfl
set_option maxRecDepth 100000 in
theorem kw_954 : Cond.constantLong RX2 218 (15) ∈ xg := xg_in (List.mem_append_right _ (List.mem_append_right _ (List.mem_append_right _ (List.mem_append_right _ (List.mem_append_left _ (List.mem_of_getElem? (i := 234) rfl)))))) rfl
set_option maxRecDepth 100000 in
theorem kw_96 : Cond.fieldLink RX6 35 RX6 "ownCount" "I" ∈ xg := xg_in (List.mem_append_right _ (List.mem_append_left _ (List.mem_of_getElem? (i := 96) rfl))) rfl
set_option maxRecDepth 100000 in
theorem kw_961 : Cond.instanceMethod yX2_holderThen ∈ xg := xg_in (List.mem_append_right _ (List.mem_append_right _ (List.mem_append_right _ (List.mem_append_right _ (List.mem_append_right _ (List.mem_append_left _ (List.mem_of_getElem? (i := 1) rfl))))))) rfl
set_option maxRecDepth 100000 in
theorem kw_962 : Cond.code yX2_holderThen cX2_holderThen 4 (some .int) ∈ xg := xg_in (List.mem_append_right _ (List.mem_append_right _ (List.mem_append_right _ (List.mem_append_right _ (List.mem_append_right _ (List.mem_append_left _ (List.mem_of_getElem? (i := 2) rfl))))))) rfl
set_option maxRecDepth 100000 in
theorem kw_963 : Cond.methodLink RX2 220 yX2_calledThen ∈ xg := xg_in (List.mem_append_right _ (List.mem_append_right _ (List.mem_append_right _ (List.mem_append_right _ (List.mem_append_right _ (List.mem_append_left _ (List.mem_of_getElem? (i := 3) rfl))))))) rfl
set_option maxRecDepth 100000 in
theorem kw_970 : Cond.instanceMethod yX2_timesCalled ∈ xg := xg_in (List.mem_append_right _ (List.mem_append_right _ (List.mem_append_right _ (List.mem_append_right _ (List.mem_append_right _ (List.mem_append_left _ (List.mem_of_getElem? (i := 10) rfl))))))) rfl
set_option maxRecDepth 100000 in
theorem kw_971 : Cond.code yX2_timesCalled cX2_timesCalled 5 (some .int) ∈ xg := xg_in (List.mem_append_right _ (List.mem_append_right _ (List.mem_append_right _ (List.mem_append_right _ (List.mem_append_right _ (List.mem_append_left _ (List.mem_of_getElem? (i := 11) rfl))))))) rfl
set_option maxRecDepth 100000 in
theorem kw_98 : Cond.fieldLink RX6 43 RX6 "length" "I" ∈ xg := xg_in (List.mem_append_right _ (List.mem_append_left _ (List.mem_of_getElem? (i := 98) rfl))) rfl
set_option maxRecDepth 100000 in
theorem kw_982 : Cond.instanceMethod yX10_findMondays ∈ xg := xg_in (List.mem_append_right _ (List.mem_append_right _ (List.mem_append_right _ (List.mem_append_right _ (List.mem_append_right _ (List.mem_append_left _ (List.mem_of_getElem? (i := 22) rfl))))))) rfl
set_option maxRecDepth 100000 in
theorem kw_983 : Cond.code yX10_findMondays cX10_findMondays 3 (some .int) ∈ xg := xg_in (List.mem_append_right _ (List.mem_append_right _ (List.mem_append_right _ (List.mem_append_right _ (List.mem_append_right _ (List.mem_append_left _ (List.mem_of_getElem? (i := 23) rfl))))))) rfl
set_option maxRecDepth 100000 in
theorem kw_984 : Cond.methodLink RX10 30 yX10_point ∈ xg := xg_in (List.mem_append_right _ (List.mem_append_right _ (List.mem_append_right _ (List.mem_append_right _ (List.mem_append_right _ (List.mem_append_left _ (List.mem_of_getElem? (i := 24) rfl))))))) rfl
set_option maxRecDepth 100000 in
theorem kw_986 : Cond.instanceMethod yX10_point ∈ xg := xg_in (List.mem_append_right _ (List.mem_append_right _ (List.mem_append_right _ (List.mem_append_right _ (List.mem_append_right _ (List.mem_append_left _ (List.mem_of_getElem? (i := 26) rfl))))))) rfl
set_option maxRecDepth 100000 in
theorem kw_987 : Cond.code yX10_point cX10_point 4 (some .boolean) ∈ xg := xg_in (List.mem_append_right _ (List.mem_append_right _ (List.mem_append_right _ (List.mem_append_right _ (List.mem_append_right _ (List.mem_append_left _ (List.mem_of_getElem? (i := 27) rfl))))))) rfl
set_option maxRecDepth 100000 in
theorem kw_99 : Cond.fieldLink RX6 45 RX6 "most" "I" ∈ xg := xg_in (List.mem_append_right _ (List.mem_append_left _ (List.mem_of_getElem? (i := 99) rfl))) rfl
set_option maxRecDepth 100000 in
theorem kw_991 : Cond.methodLink RX10 40 yX10_mondaysFor ∈ xg := xg_in (List.mem_append_right _ (List.mem_append_right _ (List.mem_append_right _ (List.mem_append_right _ (List.mem_append_right _ (List.mem_append_left _ (List.mem_of_getElem? (i := 31) rfl))))))) rfl
set_option maxRecDepth 100000 in
theorem kw_993 : Cond.instanceMethod yX10_mondaysFor ∈ xg := xg_in (List.mem_append_right _ (List.mem_append_right _ (List.mem_append_right _ (List.mem_append_right _ (List.mem_append_right _ (List.mem_append_left _ (List.mem_of_getElem? (i := 33) rfl))))))) rfl
set_option maxRecDepth 100000 in
theorem kw_994 : Cond.code yX10_mondaysFor cX10_mondaysFor 3 (some .int) ∈ xg := xg_in (List.mem_append_right _ (List.mem_append_right _ (List.mem_append_right _ (List.mem_append_right _ (List.mem_append_right _ (List.mem_append_left _ (List.mem_of_getElem? (i := 34) rfl))))))) rfl
set_option maxRecDepth 100000 in
theorem kw_995 : Cond.methodLink RX10 44 Lib.Math.max.name ∈ xg := xg_in (List.mem_append_right _ (List.mem_append_right _ (List.mem_append_right _ (List.mem_append_right _ (List.mem_append_right _ (List.mem_append_left _ (List.mem_of_getElem? (i := 35) rfl))))))) rfl
set_option maxRecDepth 100000 in
theorem kw_996 : Cond.methodLink RX10 50 yX10_pair ∈ xg := xg_in (List.mem_append_right _ (List.mem_append_right _ (List.mem_append_right _ (List.mem_append_right _ (List.mem_append_right _ (List.mem_append_left _ (List.mem_of_getElem? (i := 36) rfl))))))) rfl
set_option maxRecDepth 100000 in
theorem kw_998 : Cond.instanceMethod yX10_pair ∈ xg := xg_in (List.mem_append_right _ (List.mem_append_right _ (List.mem_append_right _ (List.mem_append_right _ (List.mem_append_right _ (List.mem_append_left _ (List.mem_of_getElem? (i := 38) rfl))))))) rfl
set_option maxRecDepth 100000 in
theorem kw_999 : Cond.code yX10_pair cX10_pair 3 none ∈ xg := xg_in (List.mem_append_right _ (List.mem_append_right _ (List.mem_append_right _ (List.mem_append_right _ (List.mem_append_right _ (List.mem_append_left _ (List.mem_of_getElem? (i := 39) rfl))))))) rfl
