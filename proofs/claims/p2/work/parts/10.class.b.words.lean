theorem kn_1004 : Cond.methodLinkNest RX11 278 yX10_findSwaps "NamesAgain" ∈ xn := xn_in (List.mem_append_right _ (List.mem_of_getElem? (i := 1004) (by decide +kernel))) rfl
theorem kn_101 : Cond.fieldLinkNest RX4 39 RX6 "kind" "I" "NamesAgain" ∈ xn := xn_in (List.mem_append_right _ (List.mem_of_getElem? (i := 101) (by decide +kernel))) rfl
theorem kn_1016 : Cond.methodLinkNest RX11 281 yX10_partnerOf "NamesAgain" ∈ xn := xn_in (List.mem_append_right _ (List.mem_of_getElem? (i := 1016) (by decide +kernel))) rfl
theorem kn_102 : Cond.fieldLinkNest RX8 34 RX6 "kind" "I" "NamesAgain" ∈ xn := xn_in (List.mem_append_right _ (List.mem_of_getElem? (i := 102) (by decide +kernel))) rfl
theorem kn_1024 : Cond.methodLinkNest RX11 284 yX3_findBidder "NamesAgain" ∈ xn := xn_in (List.mem_append_right _ (List.mem_of_getElem? (i := 1024) (by decide +kernel))) rfl
theorem kn_1028 : Cond.methodLinkNest RX3 35 yX7_worthOf "NamesAgain" ∈ xn := xn_in (List.mem_append_right _ (List.mem_of_getElem? (i := 1028) (by decide +kernel))) rfl
theorem kn_103 : Cond.fieldLinkNest RX5 53 RX6 "kind" "I" "NamesAgain" ∈ xn := xn_in (List.mem_append_right _ (List.mem_of_getElem? (i := 103) (by decide +kernel))) rfl
theorem kn_1047 : Cond.methodLinkNest RX11 371 yX6_byteAt "NamesAgain" ∈ xn := xn_in (List.mem_append_right _ (List.mem_of_getElem? (i := 1047) (by decide +kernel))) rfl
theorem kn_1059 : Cond.methodLinkNest RX11 299 yX2_hasVotes "NamesAgain" ∈ xn := xn_in (List.mem_append_right _ (List.mem_of_getElem? (i := 1059) (by decide +kernel))) rfl
theorem kn_106 : Cond.fieldLinkNest RX4 56 RX6 "word" "J" "NamesAgain" ∈ xn := xn_in (List.mem_append_right _ (List.mem_of_getElem? (i := 106) (by decide +kernel))) rfl
theorem kn_107 : Cond.fieldLinkNest RX8 102 RX6 "word" "J" "NamesAgain" ∈ xn := xn_in (List.mem_append_right _ (List.mem_of_getElem? (i := 107) (by decide +kernel))) rfl
theorem kn_1081 : Cond.methodLinkNest RX11 307 yX2_doesWait "NamesAgain" ∈ xn := xn_in (List.mem_append_right _ (List.mem_of_getElem? (i := 1081) (by decide +kernel))) rfl
theorem kn_1082 : Cond.methodLinkNest RX11 310 yX3_findLeast "NamesAgain" ∈ xn := xn_in (List.mem_append_right _ (List.mem_of_getElem? (i := 1082) (by decide +kernel))) rfl
theorem kn_109 : Cond.fieldLinkNest RX5 114 RX6 "word" "J" "NamesAgain" ∈ xn := xn_in (List.mem_append_right _ (List.mem_of_getElem? (i := 109) (by decide +kernel))) rfl
theorem kn_1090 : Cond.methodLinkNest RX3 64 yX2_isSour "NamesAgain" ∈ xn := xn_in (List.mem_append_right _ (List.mem_of_getElem? (i := 1090) (by decide +kernel))) rfl
theorem kn_1091 : Cond.methodLinkNest RX3 68 yX2_cost "NamesAgain" ∈ xn := xn_in (List.mem_append_right _ (List.mem_of_getElem? (i := 1091) (by decide +kernel))) rfl
theorem kn_1092 : Cond.methodLinkNest RX3 72 yX2_hasChanged "NamesAgain" ∈ xn := xn_in (List.mem_append_right _ (List.mem_of_getElem? (i := 1092) (by decide +kernel))) rfl
theorem kn_1101 : Cond.methodLinkNest RX11 316 yX7_isFeast "NamesAgain" ∈ xn := xn_in (List.mem_append_right _ (List.mem_of_getElem? (i := 1101) (by decide +kernel))) rfl
theorem kn_1110 : Cond.methodLinkNest RX11 322 yX2_liveDrawn "NamesAgain" ∈ xn := xn_in (List.mem_append_right _ (List.mem_of_getElem? (i := 1110) (by decide +kernel))) rfl
theorem kn_112 : Cond.fieldLinkNest RX5 130 RX6 "sign" "I" "NamesAgain" ∈ xn := xn_in (List.mem_append_right _ (List.mem_of_getElem? (i := 112) (by decide +kernel))) rfl
theorem kn_113 : Cond.fieldLinkNest RX4 76 RX6 "got" "I" "NamesAgain" ∈ xn := xn_in (List.mem_append_right _ (List.mem_of_getElem? (i := 113) (by decide +kernel))) rfl
theorem kn_1132 : Cond.methodLinkNest RX11 325 yX2_copyFrom "NamesAgain" ∈ xn := xn_in (List.mem_append_right _ (List.mem_of_getElem? (i := 1132) (by decide +kernel))) rfl
theorem kn_1137 : Cond.methodLinkNest RX11 327 yX4_read "NamesAgain" ∈ xn := xn_in (List.mem_append_right _ (List.mem_of_getElem? (i := 1137) (by decide +kernel))) rfl
theorem kn_114 : Cond.fieldLinkNest RX8 113 RX6 "got" "I" "NamesAgain" ∈ xn := xn_in (List.mem_append_right _ (List.mem_of_getElem? (i := 114) (by decide +kernel))) rfl
theorem kn_1141 : Cond.methodLinkNest RX4 33 yX6_startText "NamesAgain" ∈ xn := xn_in (List.mem_append_right _ (List.mem_of_getElem? (i := 1141) (by decide +kernel))) rfl
theorem kn_1147 : Cond.methodLinkNest RX4 52 yX6_isWord "NamesAgain" ∈ xn := xn_in (List.mem_append_right _ (List.mem_of_getElem? (i := 1147) (by decide +kernel))) rfl
theorem kn_1148 : Cond.methodLinkNest RX4 60 yX7_findSoul "NamesAgain" ∈ xn := xn_in (List.mem_append_right _ (List.mem_of_getElem? (i := 1148) (by decide +kernel))) rfl
theorem kn_1149 : Cond.methodLinkNest RX4 66 yX6_passKnown "NamesAgain" ∈ xn := xn_in (List.mem_append_right _ (List.mem_of_getElem? (i := 1149) (by decide +kernel))) rfl
theorem kn_115 : Cond.fieldLinkNest RX5 127 RX6 "got" "I" "NamesAgain" ∈ xn := xn_in (List.mem_append_right _ (List.mem_of_getElem? (i := 115) (by decide +kernel))) rfl
theorem kn_1150 : Cond.methodLinkNest RX4 70 yX6_refuse "NamesAgain" ∈ xn := xn_in (List.mem_append_right _ (List.mem_of_getElem? (i := 1150) (by decide +kernel))) rfl
theorem kn_1151 : Cond.methodLinkNest RX4 73 yX6_advance "NamesAgain" ∈ xn := xn_in (List.mem_append_right _ (List.mem_of_getElem? (i := 1151) (by decide +kernel))) rfl
theorem kn_1156 : Cond.methodLinkNest RX4 82 yX6_passNumber "NamesAgain" ∈ xn := xn_in (List.mem_append_right _ (List.mem_of_getElem? (i := 1156) (by decide +kernel))) rfl
theorem kn_1162 : Cond.methodLinkNest RX4 91 yX6_pass "NamesAgain" ∈ xn := xn_in (List.mem_append_right _ (List.mem_of_getElem? (i := 1162) (by decide +kernel))) rfl
theorem kn_1163 : Cond.methodLinkNest RX4 94 yX7_findName "NamesAgain" ∈ xn := xn_in (List.mem_append_right _ (List.mem_of_getElem? (i := 1163) (by decide +kernel))) rfl
theorem kn_117 : Cond.fieldLinkNest RX11 119 RX6 "faultKind" "I" "NamesAgain" ∈ xn := xn_in (List.mem_append_right _ (List.mem_of_getElem? (i := 117) (by decide +kernel))) rfl
theorem kn_1170 : Cond.methodLinkNest RX4 46 yX6_passSign "NamesAgain" ∈ xn := xn_in (List.mem_append_right _ (List.mem_of_getElem? (i := 1170) (by decide +kernel))) rfl
theorem kn_1171 : Cond.methodLinkNest RX11 328 yX4_judge "NamesAgain" ∈ xn := xn_in (List.mem_append_right _ (List.mem_of_getElem? (i := 1171) (by decide +kernel))) rfl
theorem kn_1175 : Cond.methodLinkNest RX4 119 yX2_whyNot "NamesAgain" ∈ xn := xn_in (List.mem_append_right _ (List.mem_of_getElem? (i := 1175) (by decide +kernel))) rfl
theorem kn_1176 : Cond.methodLinkNest RX4 125 yX2_act "NamesAgain" ∈ xn := xn_in (List.mem_append_right _ (List.mem_of_getElem? (i := 1176) (by decide +kernel))) rfl
theorem kn_1185 : Cond.methodLinkNest RX11 348 yX5_read "NamesAgain" ∈ xn := xn_in (List.mem_append_right _ (List.mem_of_getElem? (i := 1185) (by decide +kernel))) rfl
theorem kn_1189 : Cond.methodLinkNest RX5 43 yX6_startText "NamesAgain" ∈ xn := xn_in (List.mem_append_right _ (List.mem_of_getElem? (i := 1189) (by decide +kernel))) rfl
theorem kn_119 : Cond.fieldLinkNest RX11 125 RX6 "faultPlace" "I" "NamesAgain" ∈ xn := xn_in (List.mem_append_right _ (List.mem_of_getElem? (i := 119) (by decide +kernel))) rfl
theorem kn_1207 : Cond.methodLinkNest RX5 64 yX6_isWord "NamesAgain" ∈ xn := xn_in (List.mem_append_right _ (List.mem_of_getElem? (i := 1207) (by decide +kernel))) rfl
theorem kn_1217 : Cond.methodLinkNest RX5 86 yX6_isSign "NamesAgain" ∈ xn := xn_in (List.mem_append_right _ (List.mem_of_getElem? (i := 1217) (by decide +kernel))) rfl
theorem kn_1218 : Cond.methodLinkNest RX5 56 yX6_refuse "NamesAgain" ∈ xn := xn_in (List.mem_append_right _ (List.mem_of_getElem? (i := 1218) (by decide +kernel))) rfl
theorem kn_1219 : Cond.methodLinkNest RX5 68 yX6_advance "NamesAgain" ∈ xn := xn_in (List.mem_append_right _ (List.mem_of_getElem? (i := 1219) (by decide +kernel))) rfl
theorem kn_1224 : Cond.methodLinkNest RX5 90 yX6_passSign "NamesAgain" ∈ xn := xn_in (List.mem_append_right _ (List.mem_of_getElem? (i := 1224) (by decide +kernel))) rfl
theorem kn_1229 : Cond.methodLinkNest RX5 118 yX7_findName "NamesAgain" ∈ xn := xn_in (List.mem_append_right _ (List.mem_of_getElem? (i := 1229) (by decide +kernel))) rfl
theorem kn_1230 : Cond.methodLinkNest RX5 124 yX6_passKnown "NamesAgain" ∈ xn := xn_in (List.mem_append_right _ (List.mem_of_getElem? (i := 1230) (by decide +kernel))) rfl
theorem kn_1231 : Cond.methodLinkNest RX5 132 yX6_passNumber "NamesAgain" ∈ xn := xn_in (List.mem_append_right _ (List.mem_of_getElem? (i := 1231) (by decide +kernel))) rfl
theorem kn_1234 : Cond.methodLinkNest RX11 349 yX5_copyFrom "NamesAgain" ∈ xn := xn_in (List.mem_append_right _ (List.mem_of_getElem? (i := 1234) (by decide +kernel))) rfl
theorem kn_1238 : Cond.methodLinkNest RX5 39 yX11_copyRow "NamesAgain" ∈ xn := xn_in (List.mem_append_right _ (List.mem_of_getElem? (i := 1238) (by decide +kernel))) rfl
theorem kn_1243 : Cond.methodLinkNest RX11 352 yX5_soulsIn "NamesAgain" ∈ xn := xn_in (List.mem_append_right _ (List.mem_of_getElem? (i := 1243) (by decide +kernel))) rfl
theorem kn_1258 : Cond.methodLinkNest RX5 174 yX2_owed "NamesAgain" ∈ xn := xn_in (List.mem_append_right _ (List.mem_of_getElem? (i := 1258) (by decide +kernel))) rfl
theorem kn_1263 : Cond.methodLinkNest RX5 153 yX2_isAlive "NamesAgain" ∈ xn := xn_in (List.mem_append_right _ (List.mem_of_getElem? (i := 1263) (by decide +kernel))) rfl
theorem kn_1264 : Cond.methodLinkNest RX5 156 yX2_doesWait "NamesAgain" ∈ xn := xn_in (List.mem_append_right _ (List.mem_of_getElem? (i := 1264) (by decide +kernel))) rfl
theorem kn_1265 : Cond.methodLinkNest RX5 162 yX2_hasFled "NamesAgain" ∈ xn := xn_in (List.mem_append_right _ (List.mem_of_getElem? (i := 1265) (by decide +kernel))) rfl
theorem kn_1354 : Cond.methodLinkNest RX11 181 yX2_isAlive "NamesAgain" ∈ xn := xn_in (List.mem_append_right _ (List.mem_of_getElem? (i := 1354) (by decide +kernel))) rfl
theorem kn_1355 : Cond.methodLinkNest RX11 187 yX2_waitAhead "NamesAgain" ∈ xn := xn_in (List.mem_append_right _ (List.mem_of_getElem? (i := 1355) (by decide +kernel))) rfl
theorem kn_1356 : Cond.methodLinkNest RX11 190 yX2_hasChanged "NamesAgain" ∈ xn := xn_in (List.mem_append_right _ (List.mem_of_getElem? (i := 1356) (by decide +kernel))) rfl
theorem kn_1357 : Cond.methodLinkNest RX11 193 yX2_hasFled "NamesAgain" ∈ xn := xn_in (List.mem_append_right _ (List.mem_of_getElem? (i := 1357) (by decide +kernel))) rfl
theorem kn_159 : Cond.fieldLinkNest RX2 65 RX7 "names" "I" "NamesAgain" ∈ xn := xn_in (List.mem_append_right _ (List.mem_of_getElem? (i := 159) (by decide +kernel))) rfl
theorem kn_160 : Cond.fieldLinkNest RX3 52 RX7 "names" "I" "NamesAgain" ∈ xn := xn_in (List.mem_append_right _ (List.mem_of_getElem? (i := 160) (by decide +kernel))) rfl
theorem kn_161 : Cond.fieldLinkNest RX8 96 RX7 "names" "I" "NamesAgain" ∈ xn := xn_in (List.mem_append_right _ (List.mem_of_getElem? (i := 161) (by decide +kernel))) rfl
theorem kn_162 : Cond.fieldLinkNest RX11 223 RX7 "names" "I" "NamesAgain" ∈ xn := xn_in (List.mem_append_right _ (List.mem_of_getElem? (i := 162) (by decide +kernel))) rfl
theorem kn_164 : Cond.fieldLinkNest RX2 45 RX7 "souls" "I" "NamesAgain" ∈ xn := xn_in (List.mem_append_right _ (List.mem_of_getElem? (i := 164) (by decide +kernel))) rfl
theorem kn_165 : Cond.fieldLinkNest RX10 34 RX7 "souls" "I" "NamesAgain" ∈ xn := xn_in (List.mem_append_right _ (List.mem_of_getElem? (i := 165) (by decide +kernel))) rfl
theorem kn_166 : Cond.fieldLinkNest RX8 120 RX7 "souls" "I" "NamesAgain" ∈ xn := xn_in (List.mem_append_right _ (List.mem_of_getElem? (i := 166) (by decide +kernel))) rfl
theorem kn_167 : Cond.fieldLinkNest RX11 216 RX7 "souls" "I" "NamesAgain" ∈ xn := xn_in (List.mem_append_right _ (List.mem_of_getElem? (i := 167) (by decide +kernel))) rfl
theorem kn_168 : Cond.fieldLinkNest RX5 139 RX7 "souls" "I" "NamesAgain" ∈ xn := xn_in (List.mem_append_right _ (List.mem_of_getElem? (i := 168) (by decide +kernel))) rfl
theorem kn_171 : Cond.fieldLinkNest RX3 75 RX7 "price" "[I" "NamesAgain" ∈ xn := xn_in (List.mem_append_right _ (List.mem_of_getElem? (i := 171) (by decide +kernel))) rfl
theorem kn_172 : Cond.fieldLinkNest RX11 146 RX7 "price" "[I" "NamesAgain" ∈ xn := xn_in (List.mem_append_right _ (List.mem_of_getElem? (i := 172) (by decide +kernel))) rfl
theorem kn_173 : Cond.fieldLinkNest RX2 113 RX7 "price" "[I" "NamesAgain" ∈ xn := xn_in (List.mem_append_right _ (List.mem_of_getElem? (i := 173) (by decide +kernel))) rfl
theorem kn_175 : Cond.fieldLinkNest RX2 68 RX7 "firstDebt" "[I" "NamesAgain" ∈ xn := xn_in (List.mem_append_right _ (List.mem_of_getElem? (i := 175) (by decide +kernel))) rfl
theorem kn_176 : Cond.fieldLinkNest RX8 59 RX7 "firstDebt" "[I" "NamesAgain" ∈ xn := xn_in (List.mem_append_right _ (List.mem_of_getElem? (i := 176) (by decide +kernel))) rfl
theorem kn_178 : Cond.fieldLinkNest RX8 69 RX7 "every" "[I" "NamesAgain" ∈ xn := xn_in (List.mem_append_right _ (List.mem_of_getElem? (i := 178) (by decide +kernel))) rfl
theorem kn_179 : Cond.fieldLinkNest RX11 166 RX7 "every" "[I" "NamesAgain" ∈ xn := xn_in (List.mem_append_right _ (List.mem_of_getElem? (i := 179) (by decide +kernel))) rfl
theorem kn_182 : Cond.fieldLinkNest RX2 77 RX7 "firstPurse" "[I" "NamesAgain" ∈ xn := xn_in (List.mem_append_right _ (List.mem_of_getElem? (i := 182) (by decide +kernel))) rfl
theorem kn_184 : Cond.fieldLinkNest RX2 80 RX7 "firstName" "[I" "NamesAgain" ∈ xn := xn_in (List.mem_append_right _ (List.mem_of_getElem? (i := 184) (by decide +kernel))) rfl
theorem kn_185 : Cond.fieldLinkNest RX8 144 RX7 "firstName" "[I" "NamesAgain" ∈ xn := xn_in (List.mem_append_right _ (List.mem_of_getElem? (i := 185) (by decide +kernel))) rfl
theorem kn_187 : Cond.fieldLinkNest RX10 57 RX7 "wish" "[I" "NamesAgain" ∈ xn := xn_in (List.mem_append_right _ (List.mem_of_getElem? (i := 187) (by decide +kernel))) rfl
theorem kn_188 : Cond.fieldLinkNest RX11 184 RX7 "wish" "[I" "NamesAgain" ∈ xn := xn_in (List.mem_append_right _ (List.mem_of_getElem? (i := 188) (by decide +kernel))) rfl
theorem kn_189 : Cond.fieldLinkNest RX8 154 RX7 "wish" "[I" "NamesAgain" ∈ xn := xn_in (List.mem_append_right _ (List.mem_of_getElem? (i := 189) (by decide +kernel))) rfl
theorem kn_190 : Cond.fieldLinkNest RX5 165 RX7 "wish" "[I" "NamesAgain" ∈ xn := xn_in (List.mem_append_right _ (List.mem_of_getElem? (i := 190) (by decide +kernel))) rfl
theorem kn_192 : Cond.fieldLinkNest RX8 156 RX7 "old" "[I" "NamesAgain" ∈ xn := xn_in (List.mem_append_right _ (List.mem_of_getElem? (i := 192) (by decide +kernel))) rfl
theorem kn_193 : Cond.fieldLinkNest RX11 290 RX7 "old" "[I" "NamesAgain" ∈ xn := xn_in (List.mem_append_right _ (List.mem_of_getElem? (i := 193) (by decide +kernel))) rfl
theorem kn_195 : Cond.fieldLinkNest RX8 165 RX7 "worthRow" "[I" "NamesAgain" ∈ xn := xn_in (List.mem_append_right _ (List.mem_of_getElem? (i := 195) (by decide +kernel))) rfl
theorem kn_231 : Cond.fieldLinkNest RX11 140 RX8 "lineCount" "I" "NamesAgain" ∈ xn := xn_in (List.mem_append_right _ (List.mem_of_getElem? (i := 231) (by decide +kernel))) rfl
theorem kn_246 : Cond.fieldLinkNest RX5 136 RX2 "told" "LNamesAgain$Told;" "NamesAgain" ∈ xn := xn_in (List.mem_append_right _ (List.mem_of_getElem? (i := 246) (by decide +kernel))) rfl
theorem kn_248 : Cond.fieldLinkNest RX4 129 RX2 "monday" "I" "NamesAgain" ∈ xn := xn_in (List.mem_append_right _ (List.mem_of_getElem? (i := 248) (by decide +kernel))) rfl
theorem kn_249 : Cond.fieldLinkNest RX11 203 RX2 "monday" "I" "NamesAgain" ∈ xn := xn_in (List.mem_append_right _ (List.mem_of_getElem? (i := 249) (by decide +kernel))) rfl
theorem kn_251 : Cond.fieldLinkNest RX11 206 RX2 "living" "I" "NamesAgain" ∈ xn := xn_in (List.mem_append_right _ (List.mem_of_getElem? (i := 251) (by decide +kernel))) rfl
theorem kn_254 : Cond.fieldLinkNest RX11 226 RX2 "fugitives" "I" "NamesAgain" ∈ xn := xn_in (List.mem_append_right _ (List.mem_of_getElem? (i := 254) (by decide +kernel))) rfl
theorem kn_256 : Cond.fieldLinkNest RX3 26 RX2 "waitCount" "I" "NamesAgain" ∈ xn := xn_in (List.mem_append_right _ (List.mem_of_getElem? (i := 256) (by decide +kernel))) rfl
theorem kn_258 : Cond.fieldLinkNest RX4 134 RX2 "waitCount" "I" "NamesAgain" ∈ xn := xn_in (List.mem_append_right _ (List.mem_of_getElem? (i := 258) (by decide +kernel))) rfl
theorem kn_259 : Cond.fieldLinkNest RX11 213 RX2 "waitCount" "I" "NamesAgain" ∈ xn := xn_in (List.mem_append_right _ (List.mem_of_getElem? (i := 259) (by decide +kernel))) rfl
theorem kn_261 : Cond.fieldLinkNest RX3 61 RX2 "bearer" "[I" "NamesAgain" ∈ xn := xn_in (List.mem_append_right _ (List.mem_of_getElem? (i := 261) (by decide +kernel))) rfl
theorem kn_262 : Cond.fieldLinkNest RX10 71 RX2 "bearer" "[I" "NamesAgain" ∈ xn := xn_in (List.mem_append_right _ (List.mem_of_getElem? (i := 262) (by decide +kernel))) rfl
theorem kn_263 : Cond.fieldLinkNest RX11 157 RX2 "bearer" "[I" "NamesAgain" ∈ xn := xn_in (List.mem_append_right _ (List.mem_of_getElem? (i := 263) (by decide +kernel))) rfl
theorem kn_265 : Cond.fieldLinkNest RX11 154 RX2 "debt" "[I" "NamesAgain" ∈ xn := xn_in (List.mem_append_right _ (List.mem_of_getElem? (i := 265) (by decide +kernel))) rfl
theorem kn_268 : Cond.fieldLinkNest RX10 68 RX2 "nameOf" "[I" "NamesAgain" ∈ xn := xn_in (List.mem_append_right _ (List.mem_of_getElem? (i := 268) (by decide +kernel))) rfl
theorem kn_269 : Cond.fieldLinkNest RX11 175 RX2 "nameOf" "[I" "NamesAgain" ∈ xn := xn_in (List.mem_append_right _ (List.mem_of_getElem? (i := 269) (by decide +kernel))) rfl
theorem kn_270 : Cond.fieldLinkNest RX5 159 RX2 "nameOf" "[I" "NamesAgain" ∈ xn := xn_in (List.mem_append_right _ (List.mem_of_getElem? (i := 270) (by decide +kernel))) rfl
theorem kn_272 : Cond.fieldLinkNest RX3 41 RX2 "purse" "[I" "NamesAgain" ∈ xn := xn_in (List.mem_append_right _ (List.mem_of_getElem? (i := 272) (by decide +kernel))) rfl
theorem kn_273 : Cond.fieldLinkNest RX11 178 RX2 "purse" "[I" "NamesAgain" ∈ xn := xn_in (List.mem_append_right _ (List.mem_of_getElem? (i := 273) (by decide +kernel))) rfl
theorem kn_274 : Cond.fieldLinkNest RX5 172 RX2 "purse" "[I" "NamesAgain" ∈ xn := xn_in (List.mem_append_right _ (List.mem_of_getElem? (i := 274) (by decide +kernel))) rfl
theorem kn_276 : Cond.fieldLinkNest RX11 196 RX2 "feasted" "[I" "NamesAgain" ∈ xn := xn_in (List.mem_append_right _ (List.mem_of_getElem? (i := 276) (by decide +kernel))) rfl
theorem kn_277 : Cond.fieldLinkNest RX5 178 RX2 "feasted" "[I" "NamesAgain" ∈ xn := xn_in (List.mem_append_right _ (List.mem_of_getElem? (i := 277) (by decide +kernel))) rfl
theorem kn_279 : Cond.fieldLinkNest RX3 31 RX2 "waiting" "[I" "NamesAgain" ∈ xn := xn_in (List.mem_append_right _ (List.mem_of_getElem? (i := 279) (by decide +kernel))) rfl
theorem kn_280 : Cond.fieldLinkNest RX11 319 RX2 "waiting" "[I" "NamesAgain" ∈ xn := xn_in (List.mem_append_right _ (List.mem_of_getElem? (i := 280) (by decide +kernel))) rfl
theorem kn_325 : Cond.fieldLinkNest RX11 260 RX9 "size" "I" "NamesAgain" ∈ xn := xn_in (List.mem_append_right _ (List.mem_of_getElem? (i := 325) (by decide +kernel))) rfl
theorem kn_346 : Cond.fieldLinkNest RX11 332 RX4 "judged" "Z" "NamesAgain" ∈ xn := xn_in (List.mem_append_right _ (List.mem_of_getElem? (i := 346) (by decide +kernel))) rfl
theorem kn_348 : Cond.fieldLinkNest RX11 336 RX4 "reason" "I" "NamesAgain" ∈ xn := xn_in (List.mem_append_right _ (List.mem_of_getElem? (i := 348) (by decide +kernel))) rfl
theorem kn_350 : Cond.fieldLinkNest RX11 339 RX4 "goodLines" "I" "NamesAgain" ∈ xn := xn_in (List.mem_append_right _ (List.mem_of_getElem? (i := 350) (by decide +kernel))) rfl
theorem kn_352 : Cond.fieldLinkNest RX11 342 RX4 "mondayThen" "I" "NamesAgain" ∈ xn := xn_in (List.mem_append_right _ (List.mem_of_getElem? (i := 352) (by decide +kernel))) rfl
theorem kn_354 : Cond.fieldLinkNest RX11 345 RX4 "waitingThen" "I" "NamesAgain" ∈ xn := xn_in (List.mem_append_right _ (List.mem_of_getElem? (i := 354) (by decide +kernel))) rfl
theorem kn_392 : Cond.fieldLinkNest RX11 137 RX5 "ones" "I" "NamesAgain" ∈ xn := xn_in (List.mem_append_right _ (List.mem_of_getElem? (i := 392) (by decide +kernel))) rfl
theorem kn_441 : Cond.fieldLinkNest RX11 287 RX3 "secondBid" "I" "NamesAgain" ∈ xn := xn_in (List.mem_append_right _ (List.mem_of_getElem? (i := 441) (by decide +kernel))) rfl
theorem kn_444 : Cond.fieldLinkNest RX11 313 RX3 "cheapestName" "I" "NamesAgain" ∈ xn := xn_in (List.mem_append_right _ (List.mem_of_getElem? (i := 444) (by decide +kernel))) rfl
theorem kn_463 : Cond.fieldLinkNest RX11 241 RX0 "seed" "I" "NamesAgain" ∈ xn := xn_in (List.mem_append_right _ (List.mem_of_getElem? (i := 463) (by decide +kernel))) rfl
theorem kn_481 : Cond.fieldLinkNest RX11 358 RX1 "told" "LNamesAgain$Told;" "NamesAgain" ∈ xn := xn_in (List.mem_append_right _ (List.mem_of_getElem? (i := 481) (by decide +kernel))) rfl
theorem kn_483 : Cond.fieldLinkNest RX11 359 RX1 "life" "LNamesAgain$Life;" "NamesAgain" ∈ xn := xn_in (List.mem_append_right _ (List.mem_of_getElem? (i := 483) (by decide +kernel))) rfl
theorem kn_485 : Cond.fieldLinkNest RX11 360 RX1 "saying" "LNamesAgain$Sentence;" "NamesAgain" ∈ xn := xn_in (List.mem_append_right _ (List.mem_of_getElem? (i := 485) (by decide +kernel))) rfl
theorem kn_486 : Cond.fieldLinkNest RX11 361 RX1 "isKept" "Z" "NamesAgain" ∈ xn := xn_in (List.mem_append_right _ (List.mem_of_getElem? (i := 486) (by decide +kernel))) rfl
theorem kn_546 : Cond.methodLinkNest RX11 103 yX6_hasRoom "NamesAgain" ∈ xn := xn_in (List.mem_append_right _ (List.mem_of_getElem? (i := 546) (by decide +kernel))) rfl
theorem kn_550 : Cond.methodLinkNest RX11 107 yX6_put "NamesAgain" ∈ xn := xn_in (List.mem_append_right _ (List.mem_of_getElem? (i := 550) (by decide +kernel))) rfl
theorem kn_562 : Cond.methodLinkNest RX11 115 yX8_read "NamesAgain" ∈ xn := xn_in (List.mem_append_right _ (List.mem_of_getElem? (i := 562) (by decide +kernel))) rfl
theorem kn_566 : Cond.methodLinkNest RX8 19 yX7_clear "NamesAgain" ∈ xn := xn_in (List.mem_append_right _ (List.mem_of_getElem? (i := 566) (by decide +kernel))) rfl
theorem kn_570 : Cond.methodLinkNest RX8 24 yX6_startText "NamesAgain" ∈ xn := xn_in (List.mem_append_right _ (List.mem_of_getElem? (i := 570) (by decide +kernel))) rfl
theorem kn_583 : Cond.methodLinkNest RX8 47 yX6_isWord "NamesAgain" ∈ xn := xn_in (List.mem_append_right _ (List.mem_of_getElem? (i := 583) (by decide +kernel))) rfl
theorem kn_591 : Cond.methodLinkNest RX8 92 yX6_refuse "NamesAgain" ∈ xn := xn_in (List.mem_append_right _ (List.mem_of_getElem? (i := 591) (by decide +kernel))) rfl
theorem kn_595 : Cond.methodLinkNest RX8 99 yX6_advance "NamesAgain" ∈ xn := xn_in (List.mem_append_right _ (List.mem_of_getElem? (i := 595) (by decide +kernel))) rfl
theorem kn_600 : Cond.methodLinkNest RX8 168 yX6_canBeNameOrSoul "NamesAgain" ∈ xn := xn_in (List.mem_append_right _ (List.mem_of_getElem? (i := 600) (by decide +kernel))) rfl
theorem kn_604 : Cond.methodLinkNest RX8 131 yX7_findName "NamesAgain" ∈ xn := xn_in (List.mem_append_right _ (List.mem_of_getElem? (i := 604) (by decide +kernel))) rfl
theorem kn_611 : Cond.methodLinkNest RX8 151 yX7_findSoul "NamesAgain" ∈ xn := xn_in (List.mem_append_right _ (List.mem_of_getElem? (i := 611) (by decide +kernel))) rfl
theorem kn_615 : Cond.methodLinkNest RX8 56 yX6_pass "NamesAgain" ∈ xn := xn_in (List.mem_append_right _ (List.mem_of_getElem? (i := 615) (by decide +kernel))) rfl
theorem kn_619 : Cond.methodLinkNest RX8 109 yX6_passNumber "NamesAgain" ∈ xn := xn_in (List.mem_append_right _ (List.mem_of_getElem? (i := 619) (by decide +kernel))) rfl
theorem kn_624 : Cond.methodLinkNest RX8 116 yX7_addName "NamesAgain" ∈ xn := xn_in (List.mem_append_right _ (List.mem_of_getElem? (i := 624) (by decide +kernel))) rfl
theorem kn_637 : Cond.methodLinkNest RX8 138 yX6_passKnown "NamesAgain" ∈ xn := xn_in (List.mem_append_right _ (List.mem_of_getElem? (i := 637) (by decide +kernel))) rfl
theorem kn_648 : Cond.methodLinkNest RX8 123 yX7_addSoul "NamesAgain" ∈ xn := xn_in (List.mem_append_right _ (List.mem_of_getElem? (i := 648) (by decide +kernel))) rfl
theorem kn_657 : Cond.methodLinkNest RX8 135 yX7_isBorneAtFirst "NamesAgain" ∈ xn := xn_in (List.mem_append_right _ (List.mem_of_getElem? (i := 657) (by decide +kernel))) rfl
theorem kn_661 : Cond.methodLinkNest RX8 141 yX7_isSoul "NamesAgain" ∈ xn := xn_in (List.mem_append_right _ (List.mem_of_getElem? (i := 661) (by decide +kernel))) rfl
theorem kn_675 : Cond.methodLinkNest RX8 158 yX7_worthOf "NamesAgain" ∈ xn := xn_in (List.mem_append_right _ (List.mem_of_getElem? (i := 675) (by decide +kernel))) rfl
theorem kn_684 : Cond.methodLinkNest RX8 162 yX7_isName "NamesAgain" ∈ xn := xn_in (List.mem_append_right _ (List.mem_of_getElem? (i := 684) (by decide +kernel))) rfl
theorem kn_690 : Cond.methodLinkNest RX8 41 yX6_passSign "NamesAgain" ∈ xn := xn_in (List.mem_append_right _ (List.mem_of_getElem? (i := 690) (by decide +kernel))) rfl
theorem kn_699 : Cond.methodLinkNest RX11 128 yX7_copyFrom "NamesAgain" ∈ xn := xn_in (List.mem_append_right _ (List.mem_of_getElem? (i := 699) (by decide +kernel))) rfl
theorem kn_703 : Cond.methodLinkNest RX7 50 yX11_copyRow_ "NamesAgain" ∈ xn := xn_in (List.mem_append_right _ (List.mem_of_getElem? (i := 703) (by decide +kernel))) rfl
theorem kn_712 : Cond.methodLinkNest RX7 54 yX11_copyRow "NamesAgain" ∈ xn := xn_in (List.mem_append_right _ (List.mem_of_getElem? (i := 712) (by decide +kernel))) rfl
theorem kn_715 : Cond.methodLinkNest RX11 131 yX2_begin "NamesAgain" ∈ xn := xn_in (List.mem_append_right _ (List.mem_of_getElem? (i := 715) (by decide +kernel))) rfl
theorem kn_722 : Cond.methodLinkNest RX2 83 yX7_isName "NamesAgain" ∈ xn := xn_in (List.mem_append_right _ (List.mem_of_getElem? (i := 722) (by decide +kernel))) rfl
theorem kn_731 : Cond.methodLinkNest RX11 134 yX9_forget "NamesAgain" ∈ xn := xn_in (List.mem_append_right _ (List.mem_of_getElem? (i := 731) (by decide +kernel))) rfl
theorem kn_743 : Cond.methodLinkNest RX11 143 yX7_isName "NamesAgain" ∈ xn := xn_in (List.mem_append_right _ (List.mem_of_getElem? (i := 743) (by decide +kernel))) rfl
theorem kn_744 : Cond.methodLinkNest RX11 150 yX2_cost "NamesAgain" ∈ xn := xn_in (List.mem_append_right _ (List.mem_of_getElem? (i := 744) (by decide +kernel))) rfl
theorem kn_752 : Cond.methodLinkNest RX11 160 yX2_isSour "NamesAgain" ∈ xn := xn_in (List.mem_append_right _ (List.mem_of_getElem? (i := 752) (by decide +kernel))) rfl
theorem kn_756 : Cond.methodLinkNest RX2 102 yX11_hasBit "NamesAgain" ∈ xn := xn_in (List.mem_append_right _ (List.mem_of_getElem? (i := 756) (by decide +kernel))) rfl
theorem kn_759 : Cond.methodLinkNest RX11 163 yX2_hangedYet "NamesAgain" ∈ xn := xn_in (List.mem_append_right _ (List.mem_of_getElem? (i := 759) (by decide +kernel))) rfl
theorem kn_764 : Cond.methodLinkNest RX11 169 yX7_isSoul "NamesAgain" ∈ xn := xn_in (List.mem_append_right _ (List.mem_of_getElem? (i := 764) (by decide +kernel))) rfl
theorem kn_765 : Cond.methodLinkNest RX11 199 yX7_worthOf "NamesAgain" ∈ xn := xn_in (List.mem_append_right _ (List.mem_of_getElem? (i := 765) (by decide +kernel))) rfl
theorem kn_770 : Cond.methodLinkNest RX11 209 yX2_freeNames "NamesAgain" ∈ xn := xn_in (List.mem_append_right _ (List.mem_of_getElem? (i := 770) (by decide +kernel))) rfl
theorem kn_785 : Cond.methodLinkNest RX11 364 yX2_whyNot "NamesAgain" ∈ xn := xn_in (List.mem_append_right _ (List.mem_of_getElem? (i := 785) (by decide +kernel))) rfl
theorem kn_827 : Cond.methodLinkNest RX11 237 yX9_keep "NamesAgain" ∈ xn := xn_in (List.mem_append_right _ (List.mem_of_getElem? (i := 827) (by decide +kernel))) rfl
theorem kn_831 : Cond.methodLinkNest RX9 22 yX2_copyFrom "NamesAgain" ∈ xn := xn_in (List.mem_append_right _ (List.mem_of_getElem? (i := 831) (by decide +kernel))) rfl
theorem kn_835 : Cond.methodLinkNest RX2 95 yX11_copyRow "NamesAgain" ∈ xn := xn_in (List.mem_append_right _ (List.mem_of_getElem? (i := 835) (by decide +kernel))) rfl
theorem kn_836 : Cond.methodLinkNest RX2 99 yX11_copyRow_ "NamesAgain" ∈ xn := xn_in (List.mem_append_right _ (List.mem_of_getElem? (i := 836) (by decide +kernel))) rfl
theorem kn_838 : Cond.methodLinkNest RX11 367 yX2_act "NamesAgain" ∈ xn := xn_in (List.mem_append_right _ (List.mem_of_getElem? (i := 838) (by decide +kernel))) rfl
theorem kn_879 : Cond.methodLinkNest RX2 191 yX7_isFeast "NamesAgain" ∈ xn := xn_in (List.mem_append_right _ (List.mem_of_getElem? (i := 879) (by decide +kernel))) rfl
theorem kn_919 : Cond.methodLinkNest RX11 244 yX2_drawLot "NamesAgain" ∈ xn := xn_in (List.mem_append_right _ (List.mem_of_getElem? (i := 919) (by decide +kernel))) rfl
theorem kn_923 : Cond.methodLinkNest RX2 177 yX0_next "NamesAgain" ∈ xn := xn_in (List.mem_append_right _ (List.mem_of_getElem? (i := 923) (by decide +kernel))) rfl
theorem kn_932 : Cond.methodLinkNest RX11 253 yX2_passMondays "NamesAgain" ∈ xn := xn_in (List.mem_append_right _ (List.mem_of_getElem? (i := 932) (by decide +kernel))) rfl
theorem kn_937 : Cond.methodLinkNest RX11 256 yX9_takeBack "NamesAgain" ∈ xn := xn_in (List.mem_append_right _ (List.mem_of_getElem? (i := 937) (by decide +kernel))) rfl
theorem kn_945 : Cond.methodLinkNest RX11 263 yX2_hasGone "NamesAgain" ∈ xn := xn_in (List.mem_append_right _ (List.mem_of_getElem? (i := 945) (by decide +kernel))) rfl
theorem kn_949 : Cond.methodLinkNest RX11 266 yX2_calledThen "NamesAgain" ∈ xn := xn_in (List.mem_append_right _ (List.mem_of_getElem? (i := 949) (by decide +kernel))) rfl
theorem kn_959 : Cond.methodLinkNest RX11 269 yX2_holderThen "NamesAgain" ∈ xn := xn_in (List.mem_append_right _ (List.mem_of_getElem? (i := 959) (by decide +kernel))) rfl
theorem kn_968 : Cond.methodLinkNest RX11 272 yX2_timesCalled "NamesAgain" ∈ xn := xn_in (List.mem_append_right _ (List.mem_of_getElem? (i := 968) (by decide +kernel))) rfl
theorem kn_97 : Cond.fieldLinkNest RX11 111 RX6 "length" "I" "NamesAgain" ∈ xn := xn_in (List.mem_append_right _ (List.mem_of_getElem? (i := 97) (by decide +kernel))) rfl
theorem kn_980 : Cond.methodLinkNest RX11 275 yX10_findMondays "NamesAgain" ∈ xn := xn_in (List.mem_append_right _ (List.mem_of_getElem? (i := 980) (by decide +kernel))) rfl
theorem kn_988 : Cond.methodLinkNest RX10 60 yX2_isAlive "NamesAgain" ∈ xn := xn_in (List.mem_append_right _ (List.mem_of_getElem? (i := 988) (by decide +kernel))) rfl
theorem kn_989 : Cond.methodLinkNest RX10 65 yX7_isName "NamesAgain" ∈ xn := xn_in (List.mem_append_right _ (List.mem_of_getElem? (i := 989) (by decide +kernel))) rfl
theorem kn_990 : Cond.methodLinkNest RX10 74 yX11_hasBit "NamesAgain" ∈ xn := xn_in (List.mem_append_right _ (List.mem_of_getElem? (i := 990) (by decide +kernel))) rfl
theorem ks_1 : Cond.selects RX6 yX6_hasRoom yX6_hasRoom ∈ xg := xg_in (List.mem_append_left _ (List.mem_of_getElem? (i := 1) (by decide +kernel))) rfl
theorem ks_10 : Cond.selects RX6 yX6_refuse yX6_refuse ∈ xg := xg_in (List.mem_append_left _ (List.mem_of_getElem? (i := 10) (by decide +kernel))) rfl
theorem ks_100 : Cond.selects RX5 yX5_read yX5_read ∈ xg := xg_in (List.mem_append_left _ (List.mem_of_getElem? (i := 100) (by decide +kernel))) rfl
theorem ks_101 : Cond.selects RX5 yX5_readCond yX5_readCond ∈ xg := xg_in (List.mem_append_left _ (List.mem_of_getElem? (i := 101) (by decide +kernel))) rfl
theorem ks_102 : Cond.selects RX5 yX5_readAll yX5_readAll ∈ xg := xg_in (List.mem_append_left _ (List.mem_of_getElem? (i := 102) (by decide +kernel))) rfl
theorem ks_103 : Cond.selects RX5 yX5_readOne yX5_readOne ∈ xg := xg_in (List.mem_append_left _ (List.mem_of_getElem? (i := 103) (by decide +kernel))) rfl
theorem ks_104 : Cond.selects RX5 yX5_leafAhead yX5_leafAhead ∈ xg := xg_in (List.mem_append_left _ (List.mem_of_getElem? (i := 104) (by decide +kernel))) rfl
theorem ks_105 : Cond.selects RX5 yX5_addStep yX5_addStep ∈ xg := xg_in (List.mem_append_left _ (List.mem_of_getElem? (i := 105) (by decide +kernel))) rfl
theorem ks_106 : Cond.selects RX5 yX5_readLeaf yX5_readLeaf ∈ xg := xg_in (List.mem_append_left _ (List.mem_of_getElem? (i := 106) (by decide +kernel))) rfl
theorem ks_107 : Cond.selects RX5 yX5_copyFrom yX5_copyFrom ∈ xg := xg_in (List.mem_append_left _ (List.mem_of_getElem? (i := 107) (by decide +kernel))) rfl
theorem ks_108 : Cond.selects RX5 yX5_soulsIn yX5_soulsIn ∈ xg := xg_in (List.mem_append_left _ (List.mem_of_getElem? (i := 108) (by decide +kernel))) rfl
theorem ks_109 : Cond.selects RX5 yX5_soulsOfLeaf yX5_soulsOfLeaf ∈ xg := xg_in (List.mem_append_left _ (List.mem_of_getElem? (i := 109) (by decide +kernel))) rfl
theorem ks_11 : Cond.selects RX8 yX8_passNewWord yX8_passNewWord ∈ xg := xg_in (List.mem_append_left _ (List.mem_of_getElem? (i := 11) (by decide +kernel))) rfl
theorem ks_110 : Cond.selects RX5 yX5_isMeasured yX5_isMeasured ∈ xg := xg_in (List.mem_append_left _ (List.mem_of_getElem? (i := 110) (by decide +kernel))) rfl
theorem ks_111 : Cond.selects RX5 yX5_isSo yX5_isSo ∈ xg := xg_in (List.mem_append_left _ (List.mem_of_getElem? (i := 111) (by decide +kernel))) rfl
theorem ks_112 : Cond.selects RX2 yX2_hasFled yX2_hasFled ∈ xg := xg_in (List.mem_append_left _ (List.mem_of_getElem? (i := 112) (by decide +kernel))) rfl
theorem ks_12 : Cond.selects RX6 yX6_canBeNameOrSoul yX6_canBeNameOrSoul ∈ xg := xg_in (List.mem_append_left _ (List.mem_of_getElem? (i := 12) (by decide +kernel))) rfl
theorem ks_13 : Cond.selects RX7 yX7_findName yX7_findName ∈ xg := xg_in (List.mem_append_left _ (List.mem_of_getElem? (i := 13) (by decide +kernel))) rfl
theorem ks_14 : Cond.selects RX7 yX7_findSoul yX7_findSoul ∈ xg := xg_in (List.mem_append_left _ (List.mem_of_getElem? (i := 14) (by decide +kernel))) rfl
theorem ks_15 : Cond.selects RX6 yX6_pass yX6_pass ∈ xg := xg_in (List.mem_append_left _ (List.mem_of_getElem? (i := 15) (by decide +kernel))) rfl
theorem ks_16 : Cond.selects RX6 yX6_passNumber yX6_passNumber ∈ xg := xg_in (List.mem_append_left _ (List.mem_of_getElem? (i := 16) (by decide +kernel))) rfl
theorem ks_17 : Cond.selects RX7 yX7_addName yX7_addName ∈ xg := xg_in (List.mem_append_left _ (List.mem_of_getElem? (i := 17) (by decide +kernel))) rfl
theorem ks_18 : Cond.selects RX8 yX8_readOfName yX8_readOfName ∈ xg := xg_in (List.mem_append_left _ (List.mem_of_getElem? (i := 18) (by decide +kernel))) rfl
theorem ks_19 : Cond.selects RX8 yX8_passOnce yX8_passOnce ∈ xg := xg_in (List.mem_append_left _ (List.mem_of_getElem? (i := 19) (by decide +kernel))) rfl
theorem ks_2 : Cond.selects RX6 yX6_put yX6_put ∈ xg := xg_in (List.mem_append_left _ (List.mem_of_getElem? (i := 2) (by decide +kernel))) rfl
theorem ks_20 : Cond.selects RX6 yX6_passKnown yX6_passKnown ∈ xg := xg_in (List.mem_append_left _ (List.mem_of_getElem? (i := 20) (by decide +kernel))) rfl
theorem ks_21 : Cond.selects RX8 yX8_readSoulLine yX8_readSoulLine ∈ xg := xg_in (List.mem_append_left _ (List.mem_of_getElem? (i := 21) (by decide +kernel))) rfl
theorem ks_22 : Cond.selects RX7 yX7_addSoul yX7_addSoul ∈ xg := xg_in (List.mem_append_left _ (List.mem_of_getElem? (i := 22) (by decide +kernel))) rfl
theorem ks_23 : Cond.selects RX8 yX8_readFirstName yX8_readFirstName ∈ xg := xg_in (List.mem_append_left _ (List.mem_of_getElem? (i := 23) (by decide +kernel))) rfl
theorem ks_24 : Cond.selects RX7 yX7_isBorneAtFirst yX7_isBorneAtFirst ∈ xg := xg_in (List.mem_append_left _ (List.mem_of_getElem? (i := 24) (by decide +kernel))) rfl
theorem ks_25 : Cond.selects RX7 yX7_isSoul yX7_isSoul ∈ xg := xg_in (List.mem_append_left _ (List.mem_of_getElem? (i := 25) (by decide +kernel))) rfl
theorem ks_26 : Cond.selects RX8 yX8_readWish yX8_readWish ∈ xg := xg_in (List.mem_append_left _ (List.mem_of_getElem? (i := 26) (by decide +kernel))) rfl
theorem ks_27 : Cond.selects RX8 yX8_readWorth yX8_readWorth ∈ xg := xg_in (List.mem_append_left _ (List.mem_of_getElem? (i := 27) (by decide +kernel))) rfl
theorem ks_28 : Cond.selects RX7 yX7_worthOf yX7_worthOf ∈ xg := xg_in (List.mem_append_left _ (List.mem_of_getElem? (i := 28) (by decide +kernel))) rfl
theorem ks_29 : Cond.selects RX7 yX7_isName yX7_isName ∈ xg := xg_in (List.mem_append_left _ (List.mem_of_getElem? (i := 29) (by decide +kernel))) rfl
theorem ks_3 : Cond.selects RX8 yX8_read yX8_read ∈ xg := xg_in (List.mem_append_left _ (List.mem_of_getElem? (i := 3) (by decide +kernel))) rfl
theorem ks_30 : Cond.selects RX8 yX8_readOld yX8_readOld ∈ xg := xg_in (List.mem_append_left _ (List.mem_of_getElem? (i := 30) (by decide +kernel))) rfl
theorem ks_31 : Cond.selects RX6 yX6_passSign yX6_passSign ∈ xg := xg_in (List.mem_append_left _ (List.mem_of_getElem? (i := 31) (by decide +kernel))) rfl
theorem ks_32 : Cond.selects RX6 yX6_isSign yX6_isSign ∈ xg := xg_in (List.mem_append_left _ (List.mem_of_getElem? (i := 32) (by decide +kernel))) rfl
theorem ks_33 : Cond.selects RX7 yX7_copyFrom yX7_copyFrom ∈ xg := xg_in (List.mem_append_left _ (List.mem_of_getElem? (i := 33) (by decide +kernel))) rfl
theorem ks_34 : Cond.selects RX2 yX2_begin yX2_begin ∈ xg := xg_in (List.mem_append_left _ (List.mem_of_getElem? (i := 34) (by decide +kernel))) rfl
theorem ks_35 : Cond.selects RX2 yX2_give yX2_give ∈ xg := xg_in (List.mem_append_left _ (List.mem_of_getElem? (i := 35) (by decide +kernel))) rfl
theorem ks_36 : Cond.selects RX2 yX2_joinQueue yX2_joinQueue ∈ xg := xg_in (List.mem_append_left _ (List.mem_of_getElem? (i := 36) (by decide +kernel))) rfl
theorem ks_37 : Cond.selects RX9 yX9_forget yX9_forget ∈ xg := xg_in (List.mem_append_left _ (List.mem_of_getElem? (i := 37) (by decide +kernel))) rfl
theorem ks_38 : Cond.selects RX2 yX2_cost yX2_cost ∈ xg := xg_in (List.mem_append_left _ (List.mem_of_getElem? (i := 38) (by decide +kernel))) rfl
theorem ks_39 : Cond.selects RX2 yX2_hangedYet yX2_hangedYet ∈ xg := xg_in (List.mem_append_left _ (List.mem_of_getElem? (i := 39) (by decide +kernel))) rfl
theorem ks_4 : Cond.selects RX7 yX7_clear yX7_clear ∈ xg := xg_in (List.mem_append_left _ (List.mem_of_getElem? (i := 4) (by decide +kernel))) rfl
theorem ks_40 : Cond.selects RX2 yX2_isSour yX2_isSour ∈ xg := xg_in (List.mem_append_left _ (List.mem_of_getElem? (i := 40) (by decide +kernel))) rfl
theorem ks_41 : Cond.selects RX2 yX2_freeNames yX2_freeNames ∈ xg := xg_in (List.mem_append_left _ (List.mem_of_getElem? (i := 41) (by decide +kernel))) rfl
theorem ks_42 : Cond.selects RX11 yX11_attempt yX11_attempt ∈ xg := xg_in (List.mem_append_left _ (List.mem_of_getElem? (i := 42) (by decide +kernel))) rfl
theorem ks_43 : Cond.selects RX2 yX2_whyNot yX2_whyNot ∈ xg := xg_in (List.mem_append_left _ (List.mem_of_getElem? (i := 43) (by decide +kernel))) rfl
theorem ks_44 : Cond.selects RX2 yX2_whyNotTake yX2_whyNotTake ∈ xg := xg_in (List.mem_append_left _ (List.mem_of_getElem? (i := 44) (by decide +kernel))) rfl
theorem ks_45 : Cond.selects RX2 yX2_isAlive yX2_isAlive ∈ xg := xg_in (List.mem_append_left _ (List.mem_of_getElem? (i := 45) (by decide +kernel))) rfl
theorem ks_46 : Cond.selects RX2 yX2_waitAhead yX2_waitAhead ∈ xg := xg_in (List.mem_append_left _ (List.mem_of_getElem? (i := 46) (by decide +kernel))) rfl
theorem ks_47 : Cond.selects RX2 yX2_whyNotSwap yX2_whyNotSwap ∈ xg := xg_in (List.mem_append_left _ (List.mem_of_getElem? (i := 47) (by decide +kernel))) rfl
theorem ks_48 : Cond.selects RX2 yX2_hasChanged yX2_hasChanged ∈ xg := xg_in (List.mem_append_left _ (List.mem_of_getElem? (i := 48) (by decide +kernel))) rfl
theorem ks_49 : Cond.selects RX2 yX2_whyNotSell yX2_whyNotSell ∈ xg := xg_in (List.mem_append_left _ (List.mem_of_getElem? (i := 49) (by decide +kernel))) rfl
theorem ks_5 : Cond.selects RX6 yX6_startText yX6_startText ∈ xg := xg_in (List.mem_append_left _ (List.mem_of_getElem? (i := 5) (by decide +kernel))) rfl
theorem ks_50 : Cond.selects RX2 yX2_whyNotFlee yX2_whyNotFlee ∈ xg := xg_in (List.mem_append_left _ (List.mem_of_getElem? (i := 50) (by decide +kernel))) rfl
theorem ks_51 : Cond.selects RX2 yX2_whyNotPay yX2_whyNotPay ∈ xg := xg_in (List.mem_append_left _ (List.mem_of_getElem? (i := 51) (by decide +kernel))) rfl
theorem ks_52 : Cond.selects RX2 yX2_owed yX2_owed ∈ xg := xg_in (List.mem_append_left _ (List.mem_of_getElem? (i := 52) (by decide +kernel))) rfl
theorem ks_53 : Cond.selects RX9 yX9_keep yX9_keep ∈ xg := xg_in (List.mem_append_left _ (List.mem_of_getElem? (i := 53) (by decide +kernel))) rfl
theorem ks_54 : Cond.selects RX2 yX2_copyFrom yX2_copyFrom ∈ xg := xg_in (List.mem_append_left _ (List.mem_of_getElem? (i := 54) (by decide +kernel))) rfl
theorem ks_55 : Cond.selects RX2 yX2_act yX2_act ∈ xg := xg_in (List.mem_append_left _ (List.mem_of_getElem? (i := 55) (by decide +kernel))) rfl
theorem ks_56 : Cond.selects RX2 yX2_buyFree yX2_buyFree ∈ xg := xg_in (List.mem_append_left _ (List.mem_of_getElem? (i := 56) (by decide +kernel))) rfl
theorem ks_57 : Cond.selects RX2 yX2_leaveQueue yX2_leaveQueue ∈ xg := xg_in (List.mem_append_left _ (List.mem_of_getElem? (i := 57) (by decide +kernel))) rfl
theorem ks_58 : Cond.selects RX2 yX2_exchange yX2_exchange ∈ xg := xg_in (List.mem_append_left _ (List.mem_of_getElem? (i := 58) (by decide +kernel))) rfl
theorem ks_59 : Cond.selects RX2 yX2_handOver yX2_handOver ∈ xg := xg_in (List.mem_append_left _ (List.mem_of_getElem? (i := 59) (by decide +kernel))) rfl
theorem ks_6 : Cond.selects RX6 yX6_advance yX6_advance ∈ xg := xg_in (List.mem_append_left _ (List.mem_of_getElem? (i := 6) (by decide +kernel))) rfl
theorem ks_60 : Cond.selects RX2 yX2_runAway yX2_runAway ∈ xg := xg_in (List.mem_append_left _ (List.mem_of_getElem? (i := 60) (by decide +kernel))) rfl
theorem ks_61 : Cond.selects RX2 yX2_loseName yX2_loseName ∈ xg := xg_in (List.mem_append_left _ (List.mem_of_getElem? (i := 61) (by decide +kernel))) rfl
theorem ks_62 : Cond.selects RX2 yX2_payOff yX2_payOff ∈ xg := xg_in (List.mem_append_left _ (List.mem_of_getElem? (i := 62) (by decide +kernel))) rfl
theorem ks_63 : Cond.selects RX2 yX2_passMondays yX2_passMondays ∈ xg := xg_in (List.mem_append_left _ (List.mem_of_getElem? (i := 63) (by decide +kernel))) rfl
theorem ks_64 : Cond.selects RX2 yX2_endMonday yX2_endMonday ∈ xg := xg_in (List.mem_append_left _ (List.mem_of_getElem? (i := 64) (by decide +kernel))) rfl
theorem ks_65 : Cond.selects RX7 yX7_isFeast yX7_isFeast ∈ xg := xg_in (List.mem_append_left _ (List.mem_of_getElem? (i := 65) (by decide +kernel))) rfl
theorem ks_66 : Cond.selects RX2 yX2_feast yX2_feast ∈ xg := xg_in (List.mem_append_left _ (List.mem_of_getElem? (i := 66) (by decide +kernel))) rfl
theorem ks_67 : Cond.selects RX2 yX2_perish yX2_perish ∈ xg := xg_in (List.mem_append_left _ (List.mem_of_getElem? (i := 67) (by decide +kernel))) rfl
theorem ks_68 : Cond.selects RX11 yX11_areTwo yX11_areTwo ∈ xg := xg_in (List.mem_append_left _ (List.mem_of_getElem? (i := 68) (by decide +kernel))) rfl
theorem ks_69 : Cond.selects RX2 yX2_drawLot yX2_drawLot ∈ xg := xg_in (List.mem_append_left _ (List.mem_of_getElem? (i := 69) (by decide +kernel))) rfl
theorem ks_7 : Cond.selects RX8 yX8_readLine yX8_readLine ∈ xg := xg_in (List.mem_append_left _ (List.mem_of_getElem? (i := 7) (by decide +kernel))) rfl
theorem ks_70 : Cond.selects RX0 yX0_next yX0_next ∈ xg := xg_in (List.mem_append_left _ (List.mem_of_getElem? (i := 70) (by decide +kernel))) rfl
theorem ks_71 : Cond.selects RX9 yX9_takeBack yX9_takeBack ∈ xg := xg_in (List.mem_append_left _ (List.mem_of_getElem? (i := 71) (by decide +kernel))) rfl
theorem ks_72 : Cond.selects RX2 yX2_hasGone yX2_hasGone ∈ xg := xg_in (List.mem_append_left _ (List.mem_of_getElem? (i := 72) (by decide +kernel))) rfl
theorem ks_73 : Cond.selects RX2 yX2_calledThen yX2_calledThen ∈ xg := xg_in (List.mem_append_left _ (List.mem_of_getElem? (i := 73) (by decide +kernel))) rfl
theorem ks_74 : Cond.selects RX2 yX2_holderThen yX2_holderThen ∈ xg := xg_in (List.mem_append_left _ (List.mem_of_getElem? (i := 74) (by decide +kernel))) rfl
theorem ks_75 : Cond.selects RX2 yX2_timesCalled yX2_timesCalled ∈ xg := xg_in (List.mem_append_left _ (List.mem_of_getElem? (i := 75) (by decide +kernel))) rfl
theorem ks_76 : Cond.selects RX10 yX10_findMondays yX10_findMondays ∈ xg := xg_in (List.mem_append_left _ (List.mem_of_getElem? (i := 76) (by decide +kernel))) rfl
theorem ks_77 : Cond.selects RX10 yX10_point yX10_point ∈ xg := xg_in (List.mem_append_left _ (List.mem_of_getElem? (i := 77) (by decide +kernel))) rfl
theorem ks_78 : Cond.selects RX10 yX10_mondaysFor yX10_mondaysFor ∈ xg := xg_in (List.mem_append_left _ (List.mem_of_getElem? (i := 78) (by decide +kernel))) rfl
theorem ks_79 : Cond.selects RX10 yX10_pair yX10_pair ∈ xg := xg_in (List.mem_append_left _ (List.mem_of_getElem? (i := 79) (by decide +kernel))) rfl
theorem ks_8 : Cond.selects RX6 yX6_isWord yX6_isWord ∈ xg := xg_in (List.mem_append_left _ (List.mem_of_getElem? (i := 8) (by decide +kernel))) rfl
theorem ks_80 : Cond.selects RX10 yX10_findSwaps yX10_findSwaps ∈ xg := xg_in (List.mem_append_left _ (List.mem_of_getElem? (i := 80) (by decide +kernel))) rfl
theorem ks_81 : Cond.selects RX10 yX10_isFirstOfRing yX10_isFirstOfRing ∈ xg := xg_in (List.mem_append_left _ (List.mem_of_getElem? (i := 81) (by decide +kernel))) rfl
theorem ks_82 : Cond.selects RX10 yX10_partnerOf yX10_partnerOf ∈ xg := xg_in (List.mem_append_left _ (List.mem_of_getElem? (i := 82) (by decide +kernel))) rfl
theorem ks_83 : Cond.selects RX3 yX3_findBidder yX3_findBidder ∈ xg := xg_in (List.mem_append_left _ (List.mem_of_getElem? (i := 83) (by decide +kernel))) rfl
theorem ks_84 : Cond.selects RX11 yX11_isLedger yX11_isLedger ∈ xg := xg_in (List.mem_append_left _ (List.mem_of_getElem? (i := 84) (by decide +kernel))) rfl
theorem ks_85 : Cond.selects RX6 yX6_byteAt yX6_byteAt ∈ xg := xg_in (List.mem_append_left _ (List.mem_of_getElem? (i := 85) (by decide +kernel))) rfl
theorem ks_86 : Cond.selects RX11 yX11_soulsInLedger yX11_soulsInLedger ∈ xg := xg_in (List.mem_append_left _ (List.mem_of_getElem? (i := 86) (by decide +kernel))) rfl
theorem ks_87 : Cond.selects RX2 yX2_hasVotes yX2_hasVotes ∈ xg := xg_in (List.mem_append_left _ (List.mem_of_getElem? (i := 87) (by decide +kernel))) rfl
theorem ks_88 : Cond.selects RX2 yX2_doesWait yX2_doesWait ∈ xg := xg_in (List.mem_append_left _ (List.mem_of_getElem? (i := 88) (by decide +kernel))) rfl
theorem ks_89 : Cond.selects RX3 yX3_findLeast yX3_findLeast ∈ xg := xg_in (List.mem_append_left _ (List.mem_of_getElem? (i := 89) (by decide +kernel))) rfl
theorem ks_9 : Cond.selects RX8 yX8_readNameLine yX8_readNameLine ∈ xg := xg_in (List.mem_append_left _ (List.mem_of_getElem? (i := 9) (by decide +kernel))) rfl
theorem ks_90 : Cond.selects RX3 yX3_coinFor yX3_coinFor ∈ xg := xg_in (List.mem_append_left _ (List.mem_of_getElem? (i := 90) (by decide +kernel))) rfl
theorem ks_91 : Cond.selects RX2 yX2_liveDrawn yX2_liveDrawn ∈ xg := xg_in (List.mem_append_left _ (List.mem_of_getElem? (i := 91) (by decide +kernel))) rfl
theorem ks_92 : Cond.selects RX2 yX2_actByDraw yX2_actByDraw ∈ xg := xg_in (List.mem_append_left _ (List.mem_of_getElem? (i := 92) (by decide +kernel))) rfl
theorem ks_93 : Cond.selects RX2 yX2_actIfCan yX2_actIfCan ∈ xg := xg_in (List.mem_append_left _ (List.mem_of_getElem? (i := 93) (by decide +kernel))) rfl
theorem ks_94 : Cond.selects RX2 yX2_dieByDraw yX2_dieByDraw ∈ xg := xg_in (List.mem_append_left _ (List.mem_of_getElem? (i := 94) (by decide +kernel))) rfl
theorem ks_95 : Cond.selects RX4 yX4_read yX4_read ∈ xg := xg_in (List.mem_append_left _ (List.mem_of_getElem? (i := 95) (by decide +kernel))) rfl
theorem ks_96 : Cond.selects RX4 yX4_readLine yX4_readLine ∈ xg := xg_in (List.mem_append_left _ (List.mem_of_getElem? (i := 96) (by decide +kernel))) rfl
theorem ks_97 : Cond.selects RX4 yX4_setSort yX4_setSort ∈ xg := xg_in (List.mem_append_left _ (List.mem_of_getElem? (i := 97) (by decide +kernel))) rfl
theorem ks_98 : Cond.selects RX4 yX4_readDeed yX4_readDeed ∈ xg := xg_in (List.mem_append_left _ (List.mem_of_getElem? (i := 98) (by decide +kernel))) rfl
theorem ks_99 : Cond.selects RX4 yX4_judge yX4_judge ∈ xg := xg_in (List.mem_append_left _ (List.mem_of_getElem? (i := 99) (by decide +kernel))) rfl
theorem kw_1 : Cond.initialized RX11 ∈ xg := xg_in (List.mem_append_right _ (List.mem_of_getElem? (i := 1) (by decide +kernel))) rfl
theorem kw_10 : Cond.initialized RX9 ∈ xg := xg_in (List.mem_append_right _ (List.mem_of_getElem? (i := 10) (by decide +kernel))) rfl
theorem kw_100 : Cond.fieldLink RX6 48 RX6 "at" "I" ∈ xg := xg_in (List.mem_append_right _ (List.mem_of_getElem? (i := 100) (by decide +kernel))) rfl
theorem kw_1006 : Cond.instanceMethod yX10_findSwaps ∈ xg := xg_in (List.mem_append_right _ (List.mem_of_getElem? (i := 1006) (by decide +kernel))) rfl
theorem kw_1007 : Cond.code yX10_findSwaps cX10_findSwaps 3 (some .int) ∈ xg := xg_in (List.mem_append_right _ (List.mem_of_getElem? (i := 1007) (by decide +kernel))) rfl
theorem kw_1008 : Cond.methodLink RX10 53 yX10_isFirstOfRing ∈ xg := xg_in (List.mem_append_right _ (List.mem_of_getElem? (i := 1008) (by decide +kernel))) rfl
theorem kw_1010 : Cond.instanceMethod yX10_isFirstOfRing ∈ xg := xg_in (List.mem_append_right _ (List.mem_of_getElem? (i := 1010) (by decide +kernel))) rfl
theorem kw_1011 : Cond.code yX10_isFirstOfRing cX10_isFirstOfRing 4 (some .boolean) ∈ xg := xg_in (List.mem_append_right _ (List.mem_of_getElem? (i := 1011) (by decide +kernel))) rfl
theorem kw_1018 : Cond.instanceMethod yX10_partnerOf ∈ xg := xg_in (List.mem_append_right _ (List.mem_of_getElem? (i := 1018) (by decide +kernel))) rfl
theorem kw_1019 : Cond.code yX10_partnerOf cX10_partnerOf 2 (some .int) ∈ xg := xg_in (List.mem_append_right _ (List.mem_of_getElem? (i := 1019) (by decide +kernel))) rfl
theorem kw_1026 : Cond.instanceMethod yX3_findBidder ∈ xg := xg_in (List.mem_append_right _ (List.mem_of_getElem? (i := 1026) (by decide +kernel))) rfl
theorem kw_1027 : Cond.code yX3_findBidder cX3_findBidder 8 (some .int) ∈ xg := xg_in (List.mem_append_right _ (List.mem_of_getElem? (i := 1027) (by decide +kernel))) rfl
theorem kw_1029 : Cond.methodLink RX3 44 Lib.Math.min.name ∈ xg := xg_in (List.mem_append_right _ (List.mem_of_getElem? (i := 1029) (by decide +kernel))) rfl
theorem kw_1030 : Cond.methodLink RX3 49 Lib.Math.max.name ∈ xg := xg_in (List.mem_append_right _ (List.mem_of_getElem? (i := 1030) (by decide +kernel))) rfl
theorem kw_104 : Cond.fieldLink RX6 60 RX6 "kind" "I" ∈ xg := xg_in (List.mem_append_right _ (List.mem_of_getElem? (i := 104) (by decide +kernel))) rfl
theorem kw_1043 : Cond.methodLink RX11 293 yX11_isLedger ∈ xg := xg_in (List.mem_append_right _ (List.mem_of_getElem? (i := 1043) (by decide +kernel))) rfl
theorem kw_1045 : Cond.instanceMethod yX11_isLedger ∈ xg := xg_in (List.mem_append_right _ (List.mem_of_getElem? (i := 1045) (by decide +kernel))) rfl
theorem kw_1046 : Cond.code yX11_isLedger cX11_isLedger 4 (some .boolean) ∈ xg := xg_in (List.mem_append_right _ (List.mem_of_getElem? (i := 1046) (by decide +kernel))) rfl
theorem kw_1049 : Cond.instanceMethod yX6_byteAt ∈ xg := xg_in (List.mem_append_right _ (List.mem_of_getElem? (i := 1049) (by decide +kernel))) rfl
theorem kw_105 : Cond.fieldLink RX6 63 RX6 "place" "I" ∈ xg := xg_in (List.mem_append_right _ (List.mem_of_getElem? (i := 105) (by decide +kernel))) rfl
theorem kw_1050 : Cond.code yX6_byteAt cX6_byteAt 2 (some .int) ∈ xg := xg_in (List.mem_append_right _ (List.mem_of_getElem? (i := 1050) (by decide +kernel))) rfl
theorem kw_1051 : Cond.methodLink RX11 296 yX11_soulsInLedger ∈ xg := xg_in (List.mem_append_right _ (List.mem_of_getElem? (i := 1051) (by decide +kernel))) rfl
theorem kw_1053 : Cond.instanceMethod yX11_soulsInLedger ∈ xg := xg_in (List.mem_append_right _ (List.mem_of_getElem? (i := 1053) (by decide +kernel))) rfl
theorem kw_1054 : Cond.code yX11_soulsInLedger cX11_soulsInLedger 7 (some .int) ∈ xg := xg_in (List.mem_append_right _ (List.mem_of_getElem? (i := 1054) (by decide +kernel))) rfl
theorem kw_1061 : Cond.instanceMethod yX2_hasVotes ∈ xg := xg_in (List.mem_append_right _ (List.mem_of_getElem? (i := 1061) (by decide +kernel))) rfl
theorem kw_1062 : Cond.code yX2_hasVotes cX2_hasVotes 6 (some .boolean) ∈ xg := xg_in (List.mem_append_right _ (List.mem_of_getElem? (i := 1062) (by decide +kernel))) rfl
theorem kw_1063 : Cond.methodLink RX2 116 yX2_doesWait ∈ xg := xg_in (List.mem_append_right _ (List.mem_of_getElem? (i := 1063) (by decide +kernel))) rfl
theorem kw_1065 : Cond.instanceMethod yX2_doesWait ∈ xg := xg_in (List.mem_append_right _ (List.mem_of_getElem? (i := 1065) (by decide +kernel))) rfl
theorem kw_1066 : Cond.code yX2_doesWait cX2_doesWait 2 (some .boolean) ∈ xg := xg_in (List.mem_append_right _ (List.mem_of_getElem? (i := 1066) (by decide +kernel))) rfl
theorem kw_1071 : Cond.methodLink RX11 302 yJ6_bitCount_0f7a4 ∈ xg := xg_in (List.mem_append_right _ (List.mem_of_getElem? (i := 1071) (by decide +kernel))) rfl
theorem kw_1072 : Cond.static yJ6_bitCount_0f7a4 ∈ xg := xg_in (List.mem_append_right _ (List.mem_of_getElem? (i := 1072) (by decide +kernel))) rfl
theorem kw_1073 : Cond.code yJ6_bitCount_0f7a4 cJ6_bitCount_0f7a4 1 (some .int) ∈ xg := xg_in (List.mem_append_right _ (List.mem_of_getElem? (i := 1073) (by decide +kernel))) rfl
theorem kw_1074 : Cond.constant RJ6 265 (1431655765) ∈ xg := xg_in (List.mem_append_right _ (List.mem_of_getElem? (i := 1074) (by decide +kernel))) rfl
theorem kw_1075 : Cond.constant RJ6 266 (858993459) ∈ xg := xg_in (List.mem_append_right _ (List.mem_of_getElem? (i := 1075) (by decide +kernel))) rfl
theorem kw_1076 : Cond.constant RJ6 267 (252645135) ∈ xg := xg_in (List.mem_append_right _ (List.mem_of_getElem? (i := 1076) (by decide +kernel))) rfl
theorem kw_108 : Cond.fieldLink RX6 69 RX6 "word" "J" ∈ xg := xg_in (List.mem_append_right _ (List.mem_of_getElem? (i := 108) (by decide +kernel))) rfl
theorem kw_1084 : Cond.instanceMethod yX3_findLeast ∈ xg := xg_in (List.mem_append_right _ (List.mem_of_getElem? (i := 1084) (by decide +kernel))) rfl
theorem kw_1085 : Cond.code yX3_findLeast cX3_findLeast 5 (some .int) ∈ xg := xg_in (List.mem_append_right _ (List.mem_of_getElem? (i := 1085) (by decide +kernel))) rfl
theorem kw_1086 : Cond.methodLink RX3 55 yX3_coinFor ∈ xg := xg_in (List.mem_append_right _ (List.mem_of_getElem? (i := 1086) (by decide +kernel))) rfl
theorem kw_1088 : Cond.instanceMethod yX3_coinFor ∈ xg := xg_in (List.mem_append_right _ (List.mem_of_getElem? (i := 1088) (by decide +kernel))) rfl
theorem kw_1089 : Cond.code yX3_coinFor cX3_coinFor 4 (some .int) ∈ xg := xg_in (List.mem_append_right _ (List.mem_of_getElem? (i := 1089) (by decide +kernel))) rfl
theorem kw_11 : Cond.initialized RX4 ∈ xg := xg_in (List.mem_append_right _ (List.mem_of_getElem? (i := 11) (by decide +kernel))) rfl
theorem kw_110 : Cond.fieldLink RX6 73 RX6 "number" "I" ∈ xg := xg_in (List.mem_append_right _ (List.mem_of_getElem? (i := 110) (by decide +kernel))) rfl
theorem kw_111 : Cond.fieldLink RX6 66 RX6 "sign" "I" ∈ xg := xg_in (List.mem_append_right _ (List.mem_of_getElem? (i := 111) (by decide +kernel))) rfl
theorem kw_1112 : Cond.instanceMethod yX2_liveDrawn ∈ xg := xg_in (List.mem_append_right _ (List.mem_of_getElem? (i := 1112) (by decide +kernel))) rfl
theorem kw_1113 : Cond.code yX2_liveDrawn cX2_liveDrawn 5 (some .int) ∈ xg := xg_in (List.mem_append_right _ (List.mem_of_getElem? (i := 1113) (by decide +kernel))) rfl
theorem kw_1114 : Cond.methodLink RX2 197 yX2_actByDraw ∈ xg := xg_in (List.mem_append_right _ (List.mem_of_getElem? (i := 1114) (by decide +kernel))) rfl
theorem kw_1116 : Cond.instanceMethod yX2_actByDraw ∈ xg := xg_in (List.mem_append_right _ (List.mem_of_getElem? (i := 1116) (by decide +kernel))) rfl
theorem kw_1117 : Cond.code yX2_actByDraw cX2_actByDraw 3 none ∈ xg := xg_in (List.mem_append_right _ (List.mem_of_getElem? (i := 1117) (by decide +kernel))) rfl
theorem kw_1118 : Cond.methodLink RX2 201 yX2_actIfCan ∈ xg := xg_in (List.mem_append_right _ (List.mem_of_getElem? (i := 1118) (by decide +kernel))) rfl
theorem kw_1120 : Cond.instanceMethod yX2_actIfCan ∈ xg := xg_in (List.mem_append_right _ (List.mem_of_getElem? (i := 1120) (by decide +kernel))) rfl
theorem kw_1121 : Cond.code yX2_actIfCan cX2_actIfCan 4 none ∈ xg := xg_in (List.mem_append_right _ (List.mem_of_getElem? (i := 1121) (by decide +kernel))) rfl
theorem kw_1122 : Cond.methodLink RX2 208 yX2_whyNot ∈ xg := xg_in (List.mem_append_right _ (List.mem_of_getElem? (i := 1122) (by decide +kernel))) rfl
theorem kw_1123 : Cond.methodLink RX2 212 yX2_act ∈ xg := xg_in (List.mem_append_right _ (List.mem_of_getElem? (i := 1123) (by decide +kernel))) rfl
theorem kw_1124 : Cond.methodLink RX2 205 yX2_dieByDraw ∈ xg := xg_in (List.mem_append_right _ (List.mem_of_getElem? (i := 1124) (by decide +kernel))) rfl
theorem kw_1126 : Cond.instanceMethod yX2_dieByDraw ∈ xg := xg_in (List.mem_append_right _ (List.mem_of_getElem? (i := 1126) (by decide +kernel))) rfl
theorem kw_1127 : Cond.code yX2_dieByDraw cX2_dieByDraw 3 none ∈ xg := xg_in (List.mem_append_right _ (List.mem_of_getElem? (i := 1127) (by decide +kernel))) rfl
theorem kw_1139 : Cond.instanceMethod yX4_read ∈ xg := xg_in (List.mem_append_right _ (List.mem_of_getElem? (i := 1139) (by decide +kernel))) rfl
theorem kw_1140 : Cond.code yX4_read cX4_read 2 (some .boolean) ∈ xg := xg_in (List.mem_append_right _ (List.mem_of_getElem? (i := 1140) (by decide +kernel))) rfl
theorem kw_1142 : Cond.methodLink RX4 42 yX4_readLine ∈ xg := xg_in (List.mem_append_right _ (List.mem_of_getElem? (i := 1142) (by decide +kernel))) rfl
theorem kw_1144 : Cond.instanceMethod yX4_readLine ∈ xg := xg_in (List.mem_append_right _ (List.mem_of_getElem? (i := 1144) (by decide +kernel))) rfl
theorem kw_1145 : Cond.code yX4_readLine cX4_readLine 3 (some .boolean) ∈ xg := xg_in (List.mem_append_right _ (List.mem_of_getElem? (i := 1145) (by decide +kernel))) rfl
theorem kw_1152 : Cond.methodLink RX4 79 yX4_setSort ∈ xg := xg_in (List.mem_append_right _ (List.mem_of_getElem? (i := 1152) (by decide +kernel))) rfl
theorem kw_1154 : Cond.instanceMethod yX4_setSort ∈ xg := xg_in (List.mem_append_right _ (List.mem_of_getElem? (i := 1154) (by decide +kernel))) rfl
theorem kw_1155 : Cond.code yX4_setSort cX4_setSort 2 (some .boolean) ∈ xg := xg_in (List.mem_append_right _ (List.mem_of_getElem? (i := 1155) (by decide +kernel))) rfl
theorem kw_1157 : Cond.methodLink RX4 86 yX4_readDeed ∈ xg := xg_in (List.mem_append_right _ (List.mem_of_getElem? (i := 1157) (by decide +kernel))) rfl
theorem kw_1159 : Cond.instanceMethod yX4_readDeed ∈ xg := xg_in (List.mem_append_right _ (List.mem_of_getElem? (i := 1159) (by decide +kernel))) rfl
theorem kw_116 : Cond.fieldLink RX6 88 RX6 "got" "I" ∈ xg := xg_in (List.mem_append_right _ (List.mem_of_getElem? (i := 116) (by decide +kernel))) rfl
theorem kw_1160 : Cond.code yX4_readDeed cX4_readDeed 1 (some .boolean) ∈ xg := xg_in (List.mem_append_right _ (List.mem_of_getElem? (i := 1160) (by decide +kernel))) rfl
theorem kw_1173 : Cond.instanceMethod yX4_judge ∈ xg := xg_in (List.mem_append_right _ (List.mem_of_getElem? (i := 1173) (by decide +kernel))) rfl
theorem kw_1174 : Cond.code yX4_judge cX4_judge 4 (some .int) ∈ xg := xg_in (List.mem_append_right _ (List.mem_of_getElem? (i := 1174) (by decide +kernel))) rfl
theorem kw_118 : Cond.fieldLink RX6 51 RX6 "faultKind" "I" ∈ xg := xg_in (List.mem_append_right _ (List.mem_of_getElem? (i := 118) (by decide +kernel))) rfl
theorem kw_1187 : Cond.instanceMethod yX5_read ∈ xg := xg_in (List.mem_append_right _ (List.mem_of_getElem? (i := 1187) (by decide +kernel))) rfl
theorem kw_1188 : Cond.code yX5_read cX5_read 1 (some .boolean) ∈ xg := xg_in (List.mem_append_right _ (List.mem_of_getElem? (i := 1188) (by decide +kernel))) rfl
theorem kw_1190 : Cond.methodLink RX5 49 yX5_readCond ∈ xg := xg_in (List.mem_append_right _ (List.mem_of_getElem? (i := 1190) (by decide +kernel))) rfl
theorem kw_1192 : Cond.instanceMethod yX5_readCond ∈ xg := xg_in (List.mem_append_right _ (List.mem_of_getElem? (i := 1192) (by decide +kernel))) rfl
theorem kw_1193 : Cond.code yX5_readCond cX5_readCond 4 (some .boolean) ∈ xg := xg_in (List.mem_append_right _ (List.mem_of_getElem? (i := 1193) (by decide +kernel))) rfl
theorem kw_1194 : Cond.methodLink RX5 59 yX5_readAll ∈ xg := xg_in (List.mem_append_right _ (List.mem_of_getElem? (i := 1194) (by decide +kernel))) rfl
theorem kw_1196 : Cond.instanceMethod yX5_readAll ∈ xg := xg_in (List.mem_append_right _ (List.mem_of_getElem? (i := 1196) (by decide +kernel))) rfl
theorem kw_1197 : Cond.code yX5_readAll cX5_readAll 4 (some .boolean) ∈ xg := xg_in (List.mem_append_right _ (List.mem_of_getElem? (i := 1197) (by decide +kernel))) rfl
theorem kw_1198 : Cond.methodLink RX5 75 yX5_readOne ∈ xg := xg_in (List.mem_append_right _ (List.mem_of_getElem? (i := 1198) (by decide +kernel))) rfl
theorem kw_12 : Cond.initialized RX5 ∈ xg := xg_in (List.mem_append_right _ (List.mem_of_getElem? (i := 12) (by decide +kernel))) rfl
theorem kw_120 : Cond.fieldLink RX6 54 RX6 "faultPlace" "I" ∈ xg := xg_in (List.mem_append_right _ (List.mem_of_getElem? (i := 120) (by decide +kernel))) rfl
theorem kw_1200 : Cond.instanceMethod yX5_readOne ∈ xg := xg_in (List.mem_append_right _ (List.mem_of_getElem? (i := 1200) (by decide +kernel))) rfl
theorem kw_1201 : Cond.code yX5_readOne cX5_readOne 5 (some .boolean) ∈ xg := xg_in (List.mem_append_right _ (List.mem_of_getElem? (i := 1201) (by decide +kernel))) rfl
theorem kw_1202 : Cond.methodLink RX5 80 yX5_leafAhead ∈ xg := xg_in (List.mem_append_right _ (List.mem_of_getElem? (i := 1202) (by decide +kernel))) rfl
theorem kw_1204 : Cond.instanceMethod yX5_leafAhead ∈ xg := xg_in (List.mem_append_right _ (List.mem_of_getElem? (i := 1204) (by decide +kernel))) rfl
theorem kw_1205 : Cond.code yX5_leafAhead cX5_leafAhead 1 (some .int) ∈ xg := xg_in (List.mem_append_right _ (List.mem_of_getElem? (i := 1205) (by decide +kernel))) rfl
theorem kw_1220 : Cond.methodLink RX5 71 yX5_addStep ∈ xg := xg_in (List.mem_append_right _ (List.mem_of_getElem? (i := 1220) (by decide +kernel))) rfl
theorem kw_1222 : Cond.instanceMethod yX5_addStep ∈ xg := xg_in (List.mem_append_right _ (List.mem_of_getElem? (i := 1222) (by decide +kernel))) rfl
theorem kw_1223 : Cond.code yX5_addStep cX5_addStep 4 (some .boolean) ∈ xg := xg_in (List.mem_append_right _ (List.mem_of_getElem? (i := 1223) (by decide +kernel))) rfl
theorem kw_1225 : Cond.methodLink RX5 93 yX5_readLeaf ∈ xg := xg_in (List.mem_append_right _ (List.mem_of_getElem? (i := 1225) (by decide +kernel))) rfl
theorem kw_1227 : Cond.instanceMethod yX5_readLeaf ∈ xg := xg_in (List.mem_append_right _ (List.mem_of_getElem? (i := 1227) (by decide +kernel))) rfl
theorem kw_1228 : Cond.code yX5_readLeaf cX5_readLeaf 3 (some .boolean) ∈ xg := xg_in (List.mem_append_right _ (List.mem_of_getElem? (i := 1228) (by decide +kernel))) rfl
theorem kw_1236 : Cond.instanceMethod yX5_copyFrom ∈ xg := xg_in (List.mem_append_right _ (List.mem_of_getElem? (i := 1236) (by decide +kernel))) rfl
theorem kw_1237 : Cond.code yX5_copyFrom cX5_copyFrom 2 none ∈ xg := xg_in (List.mem_append_right _ (List.mem_of_getElem? (i := 1237) (by decide +kernel))) rfl
theorem kw_1245 : Cond.instanceMethod yX5_soulsIn ∈ xg := xg_in (List.mem_append_right _ (List.mem_of_getElem? (i := 1245) (by decide +kernel))) rfl
theorem kw_1246 : Cond.code yX5_soulsIn cX5_soulsIn 5 (some .int) ∈ xg := xg_in (List.mem_append_right _ (List.mem_of_getElem? (i := 1246) (by decide +kernel))) rfl
theorem kw_1247 : Cond.methodLink RX5 142 yX5_soulsOfLeaf ∈ xg := xg_in (List.mem_append_right _ (List.mem_of_getElem? (i := 1247) (by decide +kernel))) rfl
theorem kw_1249 : Cond.instanceMethod yX5_soulsOfLeaf ∈ xg := xg_in (List.mem_append_right _ (List.mem_of_getElem? (i := 1249) (by decide +kernel))) rfl
theorem kw_1250 : Cond.code yX5_soulsOfLeaf cX5_soulsOfLeaf 5 (some .int) ∈ xg := xg_in (List.mem_append_right _ (List.mem_of_getElem? (i := 1250) (by decide +kernel))) rfl
theorem kw_1251 : Cond.methodLink RX5 146 yX5_isMeasured ∈ xg := xg_in (List.mem_append_right _ (List.mem_of_getElem? (i := 1251) (by decide +kernel))) rfl
theorem kw_1253 : Cond.instanceMethod yX5_isMeasured ∈ xg := xg_in (List.mem_append_right _ (List.mem_of_getElem? (i := 1253) (by decide +kernel))) rfl
theorem kw_1254 : Cond.code yX5_isMeasured cX5_isMeasured 5 (some .boolean) ∈ xg := xg_in (List.mem_append_right _ (List.mem_of_getElem? (i := 1254) (by decide +kernel))) rfl
theorem kw_1255 : Cond.methodLink RX5 168 yX5_measureOf ∈ xg := xg_in (List.mem_append_right _ (List.mem_of_getElem? (i := 1255) (by decide +kernel))) rfl
theorem kw_1256 : Cond.static yX5_measureOf ∈ xg := xg_in (List.mem_append_right _ (List.mem_of_getElem? (i := 1256) (by decide +kernel))) rfl
theorem kw_1257 : Cond.code yX5_measureOf cX5_measureOf 3 (some .int) ∈ xg := xg_in (List.mem_append_right _ (List.mem_of_getElem? (i := 1257) (by decide +kernel))) rfl
theorem kw_1259 : Cond.methodLink RX5 150 yX5_isSo ∈ xg := xg_in (List.mem_append_right _ (List.mem_of_getElem? (i := 1259) (by decide +kernel))) rfl
theorem kw_1261 : Cond.instanceMethod yX5_isSo ∈ xg := xg_in (List.mem_append_right _ (List.mem_of_getElem? (i := 1261) (by decide +kernel))) rfl
theorem kw_1262 : Cond.code yX5_isSo cX5_isSo 4 (some .boolean) ∈ xg := xg_in (List.mem_append_right _ (List.mem_of_getElem? (i := 1262) (by decide +kernel))) rfl
theorem kw_1267 : Cond.instanceMethod yX2_hasFled ∈ xg := xg_in (List.mem_append_right _ (List.mem_of_getElem? (i := 1267) (by decide +kernel))) rfl
theorem kw_1268 : Cond.code yX2_hasFled cX2_hasFled 2 (some .boolean) ∈ xg := xg_in (List.mem_append_right _ (List.mem_of_getElem? (i := 1268) (by decide +kernel))) rfl
theorem kw_1269 : Cond.methodLink RX11 355 yX11_placeOfBit ∈ xg := xg_in (List.mem_append_right _ (List.mem_of_getElem? (i := 1269) (by decide +kernel))) rfl
theorem kw_1270 : Cond.static yX11_placeOfBit ∈ xg := xg_in (List.mem_append_right _ (List.mem_of_getElem? (i := 1270) (by decide +kernel))) rfl
theorem kw_1271 : Cond.code yX11_placeOfBit cX11_placeOfBit 4 (some .int) ∈ xg := xg_in (List.mem_append_right _ (List.mem_of_getElem? (i := 1271) (by decide +kernel))) rfl
theorem kw_1272 : Cond.methodLink RX11 374 yX11_hasBit ∈ xg := xg_in (List.mem_append_right _ (List.mem_of_getElem? (i := 1272) (by decide +kernel))) rfl
theorem kw_13 : Cond.initialized RX10 ∈ xg := xg_in (List.mem_append_right _ (List.mem_of_getElem? (i := 13) (by decide +kernel))) rfl
theorem kw_14 : Cond.initialized RX3 ∈ xg := xg_in (List.mem_append_right _ (List.mem_of_getElem? (i := 14) (by decide +kernel))) rfl
theorem kw_15 : Cond.initialized RX0 ∈ xg := xg_in (List.mem_append_right _ (List.mem_of_getElem? (i := 15) (by decide +kernel))) rfl
theorem kw_158 : Cond.fieldLink RX7 43 RX7 "names" "I" ∈ xg := xg_in (List.mem_append_right _ (List.mem_of_getElem? (i := 158) (by decide +kernel))) rfl
theorem kw_163 : Cond.fieldLink RX7 47 RX7 "souls" "I" ∈ xg := xg_in (List.mem_append_right _ (List.mem_of_getElem? (i := 163) (by decide +kernel))) rfl
theorem kw_169 : Cond.fieldLink RX7 9 RX7 "nameWord" "[J" ∈ xg := xg_in (List.mem_append_right _ (List.mem_of_getElem? (i := 169) (by decide +kernel))) rfl
theorem kw_170 : Cond.fieldLink RX7 15 RX7 "price" "[I" ∈ xg := xg_in (List.mem_append_right _ (List.mem_of_getElem? (i := 170) (by decide +kernel))) rfl
theorem kw_174 : Cond.fieldLink RX7 19 RX7 "firstDebt" "[I" ∈ xg := xg_in (List.mem_append_right _ (List.mem_of_getElem? (i := 174) (by decide +kernel))) rfl
theorem kw_177 : Cond.fieldLink RX7 22 RX7 "every" "[I" ∈ xg := xg_in (List.mem_append_right _ (List.mem_of_getElem? (i := 177) (by decide +kernel))) rfl
theorem kw_18 : Cond.initialized "java/lang/Math" ∈ xg := xg_in (List.mem_append_right _ (List.mem_of_getElem? (i := 18) (by decide +kernel))) rfl
theorem kw_180 : Cond.fieldLink RX7 25 RX7 "soulWord" "[J" ∈ xg := xg_in (List.mem_append_right _ (List.mem_of_getElem? (i := 180) (by decide +kernel))) rfl
theorem kw_181 : Cond.fieldLink RX7 28 RX7 "firstPurse" "[I" ∈ xg := xg_in (List.mem_append_right _ (List.mem_of_getElem? (i := 181) (by decide +kernel))) rfl
theorem kw_183 : Cond.fieldLink RX7 31 RX7 "firstName" "[I" ∈ xg := xg_in (List.mem_append_right _ (List.mem_of_getElem? (i := 183) (by decide +kernel))) rfl
theorem kw_186 : Cond.fieldLink RX7 34 RX7 "wish" "[I" ∈ xg := xg_in (List.mem_append_right _ (List.mem_of_getElem? (i := 186) (by decide +kernel))) rfl
theorem kw_19 : Cond.initialized "java/lang/System" ∈ xg := xg_in (List.mem_append_right _ (List.mem_of_getElem? (i := 19) (by decide +kernel))) rfl
theorem kw_191 : Cond.fieldLink RX7 37 RX7 "old" "[I" ∈ xg := xg_in (List.mem_append_right _ (List.mem_of_getElem? (i := 191) (by decide +kernel))) rfl
theorem kw_194 : Cond.fieldLink RX7 40 RX7 "worthRow" "[I" ∈ xg := xg_in (List.mem_append_right _ (List.mem_of_getElem? (i := 194) (by decide +kernel))) rfl
theorem kw_2 : Cond.initialized RX6 ∈ xg := xg_in (List.mem_append_right _ (List.mem_of_getElem? (i := 2) (by decide +kernel))) rfl
theorem kw_2030 : Cond.fieldLink RJ0 9 RJ0 "value" "[B" ∈ xg := xg_in (List.mem_append_right _ (List.mem_of_getElem? (i := 2030) (by decide +kernel))) rfl
theorem kw_2031 : Cond.fieldLink RJ0 15 RJ0 "coder" "B" ∈ xg := xg_in (List.mem_append_right _ (List.mem_of_getElem? (i := 2031) (by decide +kernel))) rfl
theorem kw_228 : Cond.fieldLink RX8 9 RX8 "tape" "LNamesAgain$Tape;" ∈ xg := xg_in (List.mem_append_right _ (List.mem_of_getElem? (i := 228) (by decide +kernel))) rfl
theorem kw_229 : Cond.fieldLink RX8 15 RX8 "draft" "LNamesAgain$Told;" ∈ xg := xg_in (List.mem_append_right _ (List.mem_of_getElem? (i := 229) (by decide +kernel))) rfl
theorem kw_230 : Cond.fieldLink RX8 30 RX8 "lineCount" "I" ∈ xg := xg_in (List.mem_append_right _ (List.mem_of_getElem? (i := 230) (by decide +kernel))) rfl
theorem kw_24 : Cond.initialized RJ6 ∈ xg := xg_in (List.mem_append_right _ (List.mem_of_getElem? (i := 24) (by decide +kernel))) rfl
theorem kw_245 : Cond.fieldLink RX2 37 RX2 "told" "LNamesAgain$Told;" ∈ xg := xg_in (List.mem_append_right _ (List.mem_of_getElem? (i := 245) (by decide +kernel))) rfl
theorem kw_247 : Cond.fieldLink RX2 41 RX2 "monday" "I" ∈ xg := xg_in (List.mem_append_right _ (List.mem_of_getElem? (i := 247) (by decide +kernel))) rfl
theorem kw_250 : Cond.fieldLink RX2 50 RX2 "living" "I" ∈ xg := xg_in (List.mem_append_right _ (List.mem_of_getElem? (i := 250) (by decide +kernel))) rfl
theorem kw_252 : Cond.fieldLink RX2 53 RX2 "changed" "I" ∈ xg := xg_in (List.mem_append_right _ (List.mem_of_getElem? (i := 252) (by decide +kernel))) rfl
theorem kw_253 : Cond.fieldLink RX2 56 RX2 "fugitives" "I" ∈ xg := xg_in (List.mem_append_right _ (List.mem_of_getElem? (i := 253) (by decide +kernel))) rfl
theorem kw_255 : Cond.fieldLink RX2 59 RX2 "sour" "I" ∈ xg := xg_in (List.mem_append_right _ (List.mem_of_getElem? (i := 255) (by decide +kernel))) rfl
theorem kw_257 : Cond.fieldLink RX2 62 RX2 "waitCount" "I" ∈ xg := xg_in (List.mem_append_right _ (List.mem_of_getElem? (i := 257) (by decide +kernel))) rfl
theorem kw_260 : Cond.fieldLink RX2 9 RX2 "bearer" "[I" ∈ xg := xg_in (List.mem_append_right _ (List.mem_of_getElem? (i := 260) (by decide +kernel))) rfl
theorem kw_264 : Cond.fieldLink RX2 15 RX2 "debt" "[I" ∈ xg := xg_in (List.mem_append_right _ (List.mem_of_getElem? (i := 264) (by decide +kernel))) rfl
theorem kw_266 : Cond.fieldLink RX2 18 RX2 "hangedTill" "[I" ∈ xg := xg_in (List.mem_append_right _ (List.mem_of_getElem? (i := 266) (by decide +kernel))) rfl
theorem kw_267 : Cond.fieldLink RX2 21 RX2 "nameOf" "[I" ∈ xg := xg_in (List.mem_append_right _ (List.mem_of_getElem? (i := 267) (by decide +kernel))) rfl
theorem kw_271 : Cond.fieldLink RX2 24 RX2 "purse" "[I" ∈ xg := xg_in (List.mem_append_right _ (List.mem_of_getElem? (i := 271) (by decide +kernel))) rfl
theorem kw_275 : Cond.fieldLink RX2 27 RX2 "feasted" "[I" ∈ xg := xg_in (List.mem_append_right _ (List.mem_of_getElem? (i := 275) (by decide +kernel))) rfl
theorem kw_278 : Cond.fieldLink RX2 30 RX2 "waiting" "[I" ∈ xg := xg_in (List.mem_append_right _ (List.mem_of_getElem? (i := 278) (by decide +kernel))) rfl
theorem kw_281 : Cond.fieldLink RX2 33 RX2 "past" "[J" ∈ xg := xg_in (List.mem_append_right _ (List.mem_of_getElem? (i := 281) (by decide +kernel))) rfl
theorem kw_3 : Cond.initialized RJ0 ∈ xg := xg_in (List.mem_append_right _ (List.mem_of_getElem? (i := 3) (by decide +kernel))) rfl
theorem kw_322 : Cond.fieldLink RX9 11 RX9 "kept" "[LNamesAgain$Life;" ∈ xg := xg_in (List.mem_append_right _ (List.mem_of_getElem? (i := 322) (by decide +kernel))) rfl
theorem kw_323 : Cond.fieldLink RX9 18 RX9 "next" "I" ∈ xg := xg_in (List.mem_append_right _ (List.mem_of_getElem? (i := 323) (by decide +kernel))) rfl
theorem kw_324 : Cond.fieldLink RX9 26 RX9 "size" "I" ∈ xg := xg_in (List.mem_append_right _ (List.mem_of_getElem? (i := 324) (by decide +kernel))) rfl
theorem kw_339 : Cond.fieldLink RX4 21 RX4 "tape" "LNamesAgain$Tape;" ∈ xg := xg_in (List.mem_append_right _ (List.mem_of_getElem? (i := 339) (by decide +kernel))) rfl
theorem kw_340 : Cond.fieldLink RX4 25 RX4 "told" "LNamesAgain$Told;" ∈ xg := xg_in (List.mem_append_right _ (List.mem_of_getElem? (i := 340) (by decide +kernel))) rfl
theorem kw_341 : Cond.fieldLink RX4 11 RX4 "sort" "[I" ∈ xg := xg_in (List.mem_append_right _ (List.mem_of_getElem? (i := 341) (by decide +kernel))) rfl
theorem kw_342 : Cond.fieldLink RX4 15 RX4 "who" "[I" ∈ xg := xg_in (List.mem_append_right _ (List.mem_of_getElem? (i := 342) (by decide +kernel))) rfl
theorem kw_343 : Cond.fieldLink RX4 18 RX4 "whom" "[I" ∈ xg := xg_in (List.mem_append_right _ (List.mem_of_getElem? (i := 343) (by decide +kernel))) rfl
theorem kw_344 : Cond.fieldLink RX4 29 RX4 "lineCount" "I" ∈ xg := xg_in (List.mem_append_right _ (List.mem_of_getElem? (i := 344) (by decide +kernel))) rfl
theorem kw_345 : Cond.fieldLink RX4 109 RX4 "judged" "Z" ∈ xg := xg_in (List.mem_append_right _ (List.mem_of_getElem? (i := 345) (by decide +kernel))) rfl
theorem kw_347 : Cond.fieldLink RX4 113 RX4 "reason" "I" ∈ xg := xg_in (List.mem_append_right _ (List.mem_of_getElem? (i := 347) (by decide +kernel))) rfl
theorem kw_349 : Cond.fieldLink RX4 116 RX4 "goodLines" "I" ∈ xg := xg_in (List.mem_append_right _ (List.mem_of_getElem? (i := 349) (by decide +kernel))) rfl
theorem kw_351 : Cond.fieldLink RX4 131 RX4 "mondayThen" "I" ∈ xg := xg_in (List.mem_append_right _ (List.mem_of_getElem? (i := 351) (by decide +kernel))) rfl
theorem kw_353 : Cond.fieldLink RX4 137 RX4 "waitingThen" "I" ∈ xg := xg_in (List.mem_append_right _ (List.mem_of_getElem? (i := 353) (by decide +kernel))) rfl
theorem kw_384 : Cond.fieldLink RX5 24 RX5 "tape" "LNamesAgain$Tape;" ∈ xg := xg_in (List.mem_append_right _ (List.mem_of_getElem? (i := 384) (by decide +kernel))) rfl
theorem kw_385 : Cond.fieldLink RX5 28 RX5 "told" "LNamesAgain$Told;" ∈ xg := xg_in (List.mem_append_right _ (List.mem_of_getElem? (i := 385) (by decide +kernel))) rfl
theorem kw_386 : Cond.fieldLink RX5 11 RX5 "step" "[I" ∈ xg := xg_in (List.mem_append_right _ (List.mem_of_getElem? (i := 386) (by decide +kernel))) rfl
theorem kw_387 : Cond.fieldLink RX5 15 RX5 "sign" "[I" ∈ xg := xg_in (List.mem_append_right _ (List.mem_of_getElem? (i := 387) (by decide +kernel))) rfl
theorem kw_388 : Cond.fieldLink RX5 18 RX5 "value" "[I" ∈ xg := xg_in (List.mem_append_right _ (List.mem_of_getElem? (i := 388) (by decide +kernel))) rfl
theorem kw_389 : Cond.fieldLink RX5 21 RX5 "sets" "[I" ∈ xg := xg_in (List.mem_append_right _ (List.mem_of_getElem? (i := 389) (by decide +kernel))) rfl
theorem kw_390 : Cond.fieldLink RX5 32 RX5 "steps" "I" ∈ xg := xg_in (List.mem_append_right _ (List.mem_of_getElem? (i := 390) (by decide +kernel))) rfl
theorem kw_391 : Cond.fieldLink RX5 36 RX5 "ones" "I" ∈ xg := xg_in (List.mem_append_right _ (List.mem_of_getElem? (i := 391) (by decide +kernel))) rfl
theorem kw_4 : Cond.initialized RJ1 ∈ xg := xg_in (List.mem_append_right _ (List.mem_of_getElem? (i := 4) (by decide +kernel))) rfl
theorem kw_416 : Cond.fieldLink RX10 18 RX10 "told" "LNamesAgain$Told;" ∈ xg := xg_in (List.mem_append_right _ (List.mem_of_getElem? (i := 416) (by decide +kernel))) rfl
theorem kw_417 : Cond.fieldLink RX10 22 RX10 "life" "LNamesAgain$Life;" ∈ xg := xg_in (List.mem_append_right _ (List.mem_of_getElem? (i := 417) (by decide +kernel))) rfl
theorem kw_418 : Cond.fieldLink RX10 9 RX10 "pointsAt" "[I" ∈ xg := xg_in (List.mem_append_right _ (List.mem_of_getElem? (i := 418) (by decide +kernel))) rfl
theorem kw_419 : Cond.fieldLink RX10 15 RX10 "partners" "[I" ∈ xg := xg_in (List.mem_append_right _ (List.mem_of_getElem? (i := 419) (by decide +kernel))) rfl
theorem kw_420 : Cond.fieldLink RX10 26 RX10 "hasPartners" "Z" ∈ xg := xg_in (List.mem_append_right _ (List.mem_of_getElem? (i := 420) (by decide +kernel))) rfl
theorem kw_438 : Cond.fieldLink RX3 15 RX3 "told" "LNamesAgain$Told;" ∈ xg := xg_in (List.mem_append_right _ (List.mem_of_getElem? (i := 438) (by decide +kernel))) rfl
theorem kw_439 : Cond.fieldLink RX3 19 RX3 "life" "LNamesAgain$Life;" ∈ xg := xg_in (List.mem_append_right _ (List.mem_of_getElem? (i := 439) (by decide +kernel))) rfl
theorem kw_44 : Cond.methodLink RX6 29 yJ0_length_8abf5 ∈ xg := xg_in (List.mem_append_right _ (List.mem_of_getElem? (i := 44) (by decide +kernel))) rfl
theorem kw_440 : Cond.fieldLink RX3 23 RX3 "secondBid" "I" ∈ xg := xg_in (List.mem_append_right _ (List.mem_of_getElem? (i := 440) (by decide +kernel))) rfl
theorem kw_442 : Cond.fieldLink RX3 58 RX3 "leastCoin" "I" ∈ xg := xg_in (List.mem_append_right _ (List.mem_of_getElem? (i := 442) (by decide +kernel))) rfl
theorem kw_443 : Cond.fieldLink RX3 9 RX3 "cheapestName" "I" ∈ xg := xg_in (List.mem_append_right _ (List.mem_of_getElem? (i := 443) (by decide +kernel))) rfl
theorem kw_45 : Cond.instanceMethod yJ0_length_8abf5 ∈ xg := xg_in (List.mem_append_right _ (List.mem_of_getElem? (i := 45) (by decide +kernel))) rfl
theorem kw_46 : Cond.selects RJ0 yJ0_length_8abf5 yJ0_length_8abf5 ∈ xg := xg_in (List.mem_append_right _ (List.mem_of_getElem? (i := 46) (by decide +kernel))) rfl
theorem kw_462 : Cond.fieldLink RX0 7 RX0 "seed" "I" ∈ xg := xg_in (List.mem_append_right _ (List.mem_of_getElem? (i := 462) (by decide +kernel))) rfl
theorem kw_47 : Cond.code yJ0_length_8abf5 cJ0_length_8abf5 1 (some .int) ∈ xg := xg_in (List.mem_append_right _ (List.mem_of_getElem? (i := 47) (by decide +kernel))) rfl
theorem kw_48 : Cond.methodLink RJ0 335 yJ0_coder_7d493 ∈ xg := xg_in (List.mem_append_right _ (List.mem_of_getElem? (i := 48) (by decide +kernel))) rfl
theorem kw_49 : Cond.instanceMethod yJ0_coder_7d493 ∈ xg := xg_in (List.mem_append_right _ (List.mem_of_getElem? (i := 49) (by decide +kernel))) rfl
theorem kw_496 : Cond.fieldLink RX11 10 RX11 "tape" "LNamesAgain$Tape;" ∈ xg := xg_in (List.mem_append_right _ (List.mem_of_getElem? (i := 496) (by decide +kernel))) rfl
theorem kw_497 : Cond.fieldLink RX11 19 RX11 "told" "LNamesAgain$Told;" ∈ xg := xg_in (List.mem_append_right _ (List.mem_of_getElem? (i := 497) (by decide +kernel))) rfl
theorem kw_498 : Cond.fieldLink RX11 23 RX11 "draft" "LNamesAgain$Told;" ∈ xg := xg_in (List.mem_append_right _ (List.mem_of_getElem? (i := 498) (by decide +kernel))) rfl
theorem kw_499 : Cond.fieldLink RX11 31 RX11 "townReader" "LNamesAgain$TownReader;" ∈ xg := xg_in (List.mem_append_right _ (List.mem_of_getElem? (i := 499) (by decide +kernel))) rfl
theorem kw_5 : Cond.initialized RJ3 ∈ xg := xg_in (List.mem_append_right _ (List.mem_of_getElem? (i := 5) (by decide +kernel))) rfl
theorem kw_50 : Cond.selects RJ0 yJ0_coder_7d493 yJ0_coder_7d493 ∈ xg := xg_in (List.mem_append_right _ (List.mem_of_getElem? (i := 50) (by decide +kernel))) rfl
theorem kw_500 : Cond.fieldLink RX11 40 RX11 "life" "LNamesAgain$Life;" ∈ xg := xg_in (List.mem_append_right _ (List.mem_of_getElem? (i := 500) (by decide +kernel))) rfl
theorem kw_501 : Cond.fieldLink RX11 44 RX11 "spare" "LNamesAgain$Life;" ∈ xg := xg_in (List.mem_append_right _ (List.mem_of_getElem? (i := 501) (by decide +kernel))) rfl
theorem kw_502 : Cond.fieldLink RX11 50 RX11 "undos" "LNamesAgain$Undo;" ∈ xg := xg_in (List.mem_append_right _ (List.mem_of_getElem? (i := 502) (by decide +kernel))) rfl
theorem kw_503 : Cond.fieldLink RX11 57 RX11 "lines" "LNamesAgain$Roll;" ∈ xg := xg_in (List.mem_append_right _ (List.mem_of_getElem? (i := 503) (by decide +kernel))) rfl
theorem kw_504 : Cond.fieldLink RX11 64 RX11 "saying" "LNamesAgain$Sentence;" ∈ xg := xg_in (List.mem_append_right _ (List.mem_of_getElem? (i := 504) (by decide +kernel))) rfl
theorem kw_505 : Cond.fieldLink RX11 68 RX11 "newSaying" "LNamesAgain$Sentence;" ∈ xg := xg_in (List.mem_append_right _ (List.mem_of_getElem? (i := 505) (by decide +kernel))) rfl
theorem kw_506 : Cond.fieldLink RX11 76 RX11 "wishing" "LNamesAgain$Wishes;" ∈ xg := xg_in (List.mem_append_right _ (List.mem_of_getElem? (i := 506) (by decide +kernel))) rfl
theorem kw_507 : Cond.fieldLink RX11 83 RX11 "market" "LNamesAgain$Market;" ∈ xg := xg_in (List.mem_append_right _ (List.mem_of_getElem? (i := 507) (by decide +kernel))) rfl
theorem kw_508 : Cond.fieldLink RX11 90 RX11 "draw" "LNamesAgain$Draw;" ∈ xg := xg_in (List.mem_append_right _ (List.mem_of_getElem? (i := 508) (by decide +kernel))) rfl
theorem kw_509 : Cond.fieldLink RX11 96 RX11 "images" "[LNamesAgain$Image;" ∈ xg := xg_in (List.mem_append_right _ (List.mem_of_getElem? (i := 509) (by decide +kernel))) rfl
theorem kw_51 : Cond.code yJ0_coder_7d493 cJ0_coder_7d493 1 (some .byte) ∈ xg := xg_in (List.mem_append_right _ (List.mem_of_getElem? (i := 51) (by decide +kernel))) rfl
theorem kw_510 : Cond.fieldLink RX11 122 RX11 "latestFault" "I" ∈ xg := xg_in (List.mem_append_right _ (List.mem_of_getElem? (i := 510) (by decide +kernel))) rfl
theorem kw_52 : Cond.fieldLink RJ0 38 RJ0 "COMPACT_STRINGS" "Z" ∈ xg := xg_in (List.mem_append_right _ (List.mem_of_getElem? (i := 52) (by decide +kernel))) rfl
theorem kw_54 : Cond.methodLink RX6 39 yJ0_charAt_5068e ∈ xg := xg_in (List.mem_append_right _ (List.mem_of_getElem? (i := 54) (by decide +kernel))) rfl
theorem kw_548 : Cond.instanceMethod yX6_hasRoom ∈ xg := xg_in (List.mem_append_right _ (List.mem_of_getElem? (i := 548) (by decide +kernel))) rfl
theorem kw_549 : Cond.code yX6_hasRoom cX6_hasRoom 2 (some .boolean) ∈ xg := xg_in (List.mem_append_right _ (List.mem_of_getElem? (i := 549) (by decide +kernel))) rfl
theorem kw_55 : Cond.instanceMethod yJ0_charAt_5068e ∈ xg := xg_in (List.mem_append_right _ (List.mem_of_getElem? (i := 55) (by decide +kernel))) rfl
theorem kw_552 : Cond.instanceMethod yX6_put ∈ xg := xg_in (List.mem_append_right _ (List.mem_of_getElem? (i := 552) (by decide +kernel))) rfl
theorem kw_553 : Cond.code yX6_put cX6_put 3 none ∈ xg := xg_in (List.mem_append_right _ (List.mem_of_getElem? (i := 553) (by decide +kernel))) rfl
theorem kw_56 : Cond.selects RJ0 yJ0_charAt_5068e yJ0_charAt_5068e ∈ xg := xg_in (List.mem_append_right _ (List.mem_of_getElem? (i := 56) (by decide +kernel))) rfl
theorem kw_564 : Cond.instanceMethod yX8_read ∈ xg := xg_in (List.mem_append_right _ (List.mem_of_getElem? (i := 564) (by decide +kernel))) rfl
theorem kw_565 : Cond.code yX8_read cX8_read 1 (some .boolean) ∈ xg := xg_in (List.mem_append_right _ (List.mem_of_getElem? (i := 565) (by decide +kernel))) rfl
theorem kw_568 : Cond.instanceMethod yX7_clear ∈ xg := xg_in (List.mem_append_right _ (List.mem_of_getElem? (i := 568) (by decide +kernel))) rfl
theorem kw_569 : Cond.code yX7_clear cX7_clear 1 none ∈ xg := xg_in (List.mem_append_right _ (List.mem_of_getElem? (i := 569) (by decide +kernel))) rfl
theorem kw_57 : Cond.code yJ0_charAt_5068e cJ0_charAt_5068e 2 (some .char) ∈ xg := xg_in (List.mem_append_right _ (List.mem_of_getElem? (i := 57) (by decide +kernel))) rfl
theorem kw_572 : Cond.instanceMethod yX6_startText ∈ xg := xg_in (List.mem_append_right _ (List.mem_of_getElem? (i := 572) (by decide +kernel))) rfl
theorem kw_573 : Cond.code yX6_startText cX6_startText 2 none ∈ xg := xg_in (List.mem_append_right _ (List.mem_of_getElem? (i := 573) (by decide +kernel))) rfl
theorem kw_574 : Cond.methodLink RX6 57 yX6_advance ∈ xg := xg_in (List.mem_append_right _ (List.mem_of_getElem? (i := 574) (by decide +kernel))) rfl
theorem kw_576 : Cond.instanceMethod yX6_advance ∈ xg := xg_in (List.mem_append_right _ (List.mem_of_getElem? (i := 576) (by decide +kernel))) rfl
theorem kw_577 : Cond.code yX6_advance cX6_advance 4 none ∈ xg := xg_in (List.mem_append_right _ (List.mem_of_getElem? (i := 577) (by decide +kernel))) rfl
theorem kw_578 : Cond.methodLink RX8 37 yX8_readLine ∈ xg := xg_in (List.mem_append_right _ (List.mem_of_getElem? (i := 578) (by decide +kernel))) rfl
theorem kw_58 : Cond.methodLink RJ0 492 yJ0_isLatin1_aae02 ∈ xg := xg_in (List.mem_append_right _ (List.mem_of_getElem? (i := 58) (by decide +kernel))) rfl
theorem kw_580 : Cond.instanceMethod yX8_readLine ∈ xg := xg_in (List.mem_append_right _ (List.mem_of_getElem? (i := 580) (by decide +kernel))) rfl
theorem kw_581 : Cond.code yX8_readLine cX8_readLine 1 (some .boolean) ∈ xg := xg_in (List.mem_append_right _ (List.mem_of_getElem? (i := 581) (by decide +kernel))) rfl
theorem kw_585 : Cond.instanceMethod yX6_isWord ∈ xg := xg_in (List.mem_append_right _ (List.mem_of_getElem? (i := 585) (by decide +kernel))) rfl
theorem kw_586 : Cond.code yX6_isWord cX6_isWord 5 (some .boolean) ∈ xg := xg_in (List.mem_append_right _ (List.mem_of_getElem? (i := 586) (by decide +kernel))) rfl
theorem kw_587 : Cond.methodLink RX8 51 yX8_readNameLine ∈ xg := xg_in (List.mem_append_right _ (List.mem_of_getElem? (i := 587) (by decide +kernel))) rfl
theorem kw_589 : Cond.instanceMethod yX8_readNameLine ∈ xg := xg_in (List.mem_append_right _ (List.mem_of_getElem? (i := 589) (by decide +kernel))) rfl
theorem kw_59 : Cond.instanceMethod yJ0_isLatin1_aae02 ∈ xg := xg_in (List.mem_append_right _ (List.mem_of_getElem? (i := 59) (by decide +kernel))) rfl
theorem kw_590 : Cond.code yX8_readNameLine cX8_readNameLine 3 (some .boolean) ∈ xg := xg_in (List.mem_append_right _ (List.mem_of_getElem? (i := 590) (by decide +kernel))) rfl
theorem kw_593 : Cond.instanceMethod yX6_refuse ∈ xg := xg_in (List.mem_append_right _ (List.mem_of_getElem? (i := 593) (by decide +kernel))) rfl
theorem kw_594 : Cond.code yX6_refuse cX6_refuse 2 (some .boolean) ∈ xg := xg_in (List.mem_append_right _ (List.mem_of_getElem? (i := 594) (by decide +kernel))) rfl
theorem kw_596 : Cond.methodLink RX8 106 yX8_passNewWord ∈ xg := xg_in (List.mem_append_right _ (List.mem_of_getElem? (i := 596) (by decide +kernel))) rfl
theorem kw_598 : Cond.instanceMethod yX8_passNewWord ∈ xg := xg_in (List.mem_append_right _ (List.mem_of_getElem? (i := 598) (by decide +kernel))) rfl
theorem kw_599 : Cond.code yX8_passNewWord cX8_passNewWord 2 (some .boolean) ∈ xg := xg_in (List.mem_append_right _ (List.mem_of_getElem? (i := 599) (by decide +kernel))) rfl
theorem kw_6 : Cond.initialized RJ2 ∈ xg := xg_in (List.mem_append_right _ (List.mem_of_getElem? (i := 6) (by decide +kernel))) rfl
theorem kw_60 : Cond.selects RJ0 yJ0_isLatin1_aae02 yJ0_isLatin1_aae02 ∈ xg := xg_in (List.mem_append_right _ (List.mem_of_getElem? (i := 60) (by decide +kernel))) rfl
theorem kw_602 : Cond.instanceMethod yX6_canBeNameOrSoul ∈ xg := xg_in (List.mem_append_right _ (List.mem_of_getElem? (i := 602) (by decide +kernel))) rfl
theorem kw_603 : Cond.code yX6_canBeNameOrSoul cX6_canBeNameOrSoul 2 (some .boolean) ∈ xg := xg_in (List.mem_append_right _ (List.mem_of_getElem? (i := 603) (by decide +kernel))) rfl
theorem kw_606 : Cond.instanceMethod yX7_findName ∈ xg := xg_in (List.mem_append_right _ (List.mem_of_getElem? (i := 606) (by decide +kernel))) rfl
theorem kw_607 : Cond.code yX7_findName cX7_findName 3 (some .int) ∈ xg := xg_in (List.mem_append_right _ (List.mem_of_getElem? (i := 607) (by decide +kernel))) rfl
theorem kw_608 : Cond.methodLink RX7 57 yX7_find ∈ xg := xg_in (List.mem_append_right _ (List.mem_of_getElem? (i := 608) (by decide +kernel))) rfl
theorem kw_609 : Cond.static yX7_find ∈ xg := xg_in (List.mem_append_right _ (List.mem_of_getElem? (i := 609) (by decide +kernel))) rfl
theorem kw_61 : Cond.code yJ0_isLatin1_aae02 cJ0_isLatin1_aae02 1 (some .boolean) ∈ xg := xg_in (List.mem_append_right _ (List.mem_of_getElem? (i := 61) (by decide +kernel))) rfl
theorem kw_610 : Cond.code yX7_find cX7_find 5 (some .int) ∈ xg := xg_in (List.mem_append_right _ (List.mem_of_getElem? (i := 610) (by decide +kernel))) rfl
theorem kw_613 : Cond.instanceMethod yX7_findSoul ∈ xg := xg_in (List.mem_append_right _ (List.mem_of_getElem? (i := 613) (by decide +kernel))) rfl
theorem kw_614 : Cond.code yX7_findSoul cX7_findSoul 3 (some .int) ∈ xg := xg_in (List.mem_append_right _ (List.mem_of_getElem? (i := 614) (by decide +kernel))) rfl
theorem kw_617 : Cond.instanceMethod yX6_pass ∈ xg := xg_in (List.mem_append_right _ (List.mem_of_getElem? (i := 617) (by decide +kernel))) rfl
theorem kw_618 : Cond.code yX6_pass cX6_pass 1 (some .boolean) ∈ xg := xg_in (List.mem_append_right _ (List.mem_of_getElem? (i := 618) (by decide +kernel))) rfl
theorem kw_62 : Cond.methodLink RJ0 495 yJ1_charAt_3b067 ∈ xg := xg_in (List.mem_append_right _ (List.mem_of_getElem? (i := 62) (by decide +kernel))) rfl
theorem kw_621 : Cond.instanceMethod yX6_passNumber ∈ xg := xg_in (List.mem_append_right _ (List.mem_of_getElem? (i := 621) (by decide +kernel))) rfl
theorem kw_622 : Cond.code yX6_passNumber cX6_passNumber 3 (some .boolean) ∈ xg := xg_in (List.mem_append_right _ (List.mem_of_getElem? (i := 622) (by decide +kernel))) rfl
theorem kw_623 : Cond.methodLink RX6 84 yX6_refuse ∈ xg := xg_in (List.mem_append_right _ (List.mem_of_getElem? (i := 623) (by decide +kernel))) rfl
theorem kw_626 : Cond.instanceMethod yX7_addName ∈ xg := xg_in (List.mem_append_right _ (List.mem_of_getElem? (i := 626) (by decide +kernel))) rfl
theorem kw_627 : Cond.code yX7_addName cX7_addName 4 none ∈ xg := xg_in (List.mem_append_right _ (List.mem_of_getElem? (i := 627) (by decide +kernel))) rfl
theorem kw_629 : Cond.methodLink RX8 63 yX8_readOfName ∈ xg := xg_in (List.mem_append_right _ (List.mem_of_getElem? (i := 629) (by decide +kernel))) rfl
theorem kw_63 : Cond.static yJ1_charAt_3b067 ∈ xg := xg_in (List.mem_append_right _ (List.mem_of_getElem? (i := 63) (by decide +kernel))) rfl
theorem kw_631 : Cond.instanceMethod yX8_readOfName ∈ xg := xg_in (List.mem_append_right _ (List.mem_of_getElem? (i := 631) (by decide +kernel))) rfl
theorem kw_632 : Cond.code yX8_readOfName cX8_readOfName 5 (some .boolean) ∈ xg := xg_in (List.mem_append_right _ (List.mem_of_getElem? (i := 632) (by decide +kernel))) rfl
theorem kw_633 : Cond.methodLink RX8 147 yX8_passOnce ∈ xg := xg_in (List.mem_append_right _ (List.mem_of_getElem? (i := 633) (by decide +kernel))) rfl
theorem kw_635 : Cond.instanceMethod yX8_passOnce ∈ xg := xg_in (List.mem_append_right _ (List.mem_of_getElem? (i := 635) (by decide +kernel))) rfl
theorem kw_636 : Cond.code yX8_passOnce cX8_passOnce 4 (some .boolean) ∈ xg := xg_in (List.mem_append_right _ (List.mem_of_getElem? (i := 636) (by decide +kernel))) rfl
theorem kw_639 : Cond.instanceMethod yX6_passKnown ∈ xg := xg_in (List.mem_append_right _ (List.mem_of_getElem? (i := 639) (by decide +kernel))) rfl
theorem kw_64 : Cond.code yJ1_charAt_3b067 cJ1_charAt_3b067 2 (some .char) ∈ xg := xg_in (List.mem_append_right _ (List.mem_of_getElem? (i := 64) (by decide +kernel))) rfl
theorem kw_640 : Cond.code yX6_passKnown cX6_passKnown 2 (some .boolean) ∈ xg := xg_in (List.mem_append_right _ (List.mem_of_getElem? (i := 640) (by decide +kernel))) rfl
theorem kw_641 : Cond.methodLink RX6 91 yX6_canBeNameOrSoul ∈ xg := xg_in (List.mem_append_right _ (List.mem_of_getElem? (i := 641) (by decide +kernel))) rfl
theorem kw_644 : Cond.methodLink RX8 74 yX8_readSoulLine ∈ xg := xg_in (List.mem_append_right _ (List.mem_of_getElem? (i := 644) (by decide +kernel))) rfl
theorem kw_646 : Cond.instanceMethod yX8_readSoulLine ∈ xg := xg_in (List.mem_append_right _ (List.mem_of_getElem? (i := 646) (by decide +kernel))) rfl
theorem kw_647 : Cond.code yX8_readSoulLine cX8_readSoulLine 3 (some .boolean) ∈ xg := xg_in (List.mem_append_right _ (List.mem_of_getElem? (i := 647) (by decide +kernel))) rfl
theorem kw_65 : Cond.methodLink RJ1 9 yJ0_checkIndex_df160 ∈ xg := xg_in (List.mem_append_right _ (List.mem_of_getElem? (i := 65) (by decide +kernel))) rfl
theorem kw_650 : Cond.instanceMethod yX7_addSoul ∈ xg := xg_in (List.mem_append_right _ (List.mem_of_getElem? (i := 650) (by decide +kernel))) rfl
theorem kw_651 : Cond.code yX7_addSoul cX7_addSoul 5 none ∈ xg := xg_in (List.mem_append_right _ (List.mem_of_getElem? (i := 651) (by decide +kernel))) rfl
theorem kw_653 : Cond.methodLink RX8 128 yX8_readFirstName ∈ xg := xg_in (List.mem_append_right _ (List.mem_of_getElem? (i := 653) (by decide +kernel))) rfl
theorem kw_655 : Cond.instanceMethod yX8_readFirstName ∈ xg := xg_in (List.mem_append_right _ (List.mem_of_getElem? (i := 655) (by decide +kernel))) rfl
theorem kw_656 : Cond.code yX8_readFirstName cX8_readFirstName 3 (some .boolean) ∈ xg := xg_in (List.mem_append_right _ (List.mem_of_getElem? (i := 656) (by decide +kernel))) rfl
theorem kw_659 : Cond.instanceMethod yX7_isBorneAtFirst ∈ xg := xg_in (List.mem_append_right _ (List.mem_of_getElem? (i := 659) (by decide +kernel))) rfl
theorem kw_66 : Cond.static yJ0_checkIndex_df160 ∈ xg := xg_in (List.mem_append_right _ (List.mem_of_getElem? (i := 66) (by decide +kernel))) rfl
theorem kw_660 : Cond.code yX7_isBorneAtFirst cX7_isBorneAtFirst 3 (some .boolean) ∈ xg := xg_in (List.mem_append_right _ (List.mem_of_getElem? (i := 660) (by decide +kernel))) rfl
theorem kw_663 : Cond.instanceMethod yX7_isSoul ∈ xg := xg_in (List.mem_append_right _ (List.mem_of_getElem? (i := 663) (by decide +kernel))) rfl
theorem kw_664 : Cond.code yX7_isSoul cX7_isSoul 2 (some .boolean) ∈ xg := xg_in (List.mem_append_right _ (List.mem_of_getElem? (i := 664) (by decide +kernel))) rfl
theorem kw_666 : Cond.methodLink RX8 79 yX8_readWish ∈ xg := xg_in (List.mem_append_right _ (List.mem_of_getElem? (i := 666) (by decide +kernel))) rfl
theorem kw_668 : Cond.instanceMethod yX8_readWish ∈ xg := xg_in (List.mem_append_right _ (List.mem_of_getElem? (i := 668) (by decide +kernel))) rfl
theorem kw_669 : Cond.code yX8_readWish cX8_readWish 2 (some .boolean) ∈ xg := xg_in (List.mem_append_right _ (List.mem_of_getElem? (i := 669) (by decide +kernel))) rfl
theorem kw_67 : Cond.code yJ0_checkIndex_df160 cJ0_checkIndex_df160 2 none ∈ xg := xg_in (List.mem_append_right _ (List.mem_of_getElem? (i := 67) (by decide +kernel))) rfl
theorem kw_671 : Cond.methodLink RX8 84 yX8_readWorth ∈ xg := xg_in (List.mem_append_right _ (List.mem_of_getElem? (i := 671) (by decide +kernel))) rfl
theorem kw_673 : Cond.instanceMethod yX8_readWorth ∈ xg := xg_in (List.mem_append_right _ (List.mem_of_getElem? (i := 673) (by decide +kernel))) rfl
theorem kw_674 : Cond.code yX8_readWorth cX8_readWorth 3 (some .boolean) ∈ xg := xg_in (List.mem_append_right _ (List.mem_of_getElem? (i := 674) (by decide +kernel))) rfl
theorem kw_677 : Cond.instanceMethod yX7_worthOf ∈ xg := xg_in (List.mem_append_right _ (List.mem_of_getElem? (i := 677) (by decide +kernel))) rfl
theorem kw_678 : Cond.code yX7_worthOf cX7_worthOf 3 (some .int) ∈ xg := xg_in (List.mem_append_right _ (List.mem_of_getElem? (i := 678) (by decide +kernel))) rfl
theorem kw_679 : Cond.methodLink RX7 61 yX7_isSoul ∈ xg := xg_in (List.mem_append_right _ (List.mem_of_getElem? (i := 679) (by decide +kernel))) rfl
theorem kw_68 : Cond.fieldLink RJ0 1053 RJ3 "SIOOBE_FORMATTER" "Ljava/util/function/BiFunction;" ∈ xg := xg_in (List.mem_append_right _ (List.mem_of_getElem? (i := 68) (by decide +kernel))) rfl
theorem kw_680 : Cond.methodLink RX7 65 yX7_isName ∈ xg := xg_in (List.mem_append_right _ (List.mem_of_getElem? (i := 680) (by decide +kernel))) rfl
theorem kw_682 : Cond.instanceMethod yX7_isName ∈ xg := xg_in (List.mem_append_right _ (List.mem_of_getElem? (i := 682) (by decide +kernel))) rfl
theorem kw_683 : Cond.code yX7_isName cX7_isName 2 (some .boolean) ∈ xg := xg_in (List.mem_append_right _ (List.mem_of_getElem? (i := 683) (by decide +kernel))) rfl
theorem kw_686 : Cond.methodLink RX8 89 yX8_readOld ∈ xg := xg_in (List.mem_append_right _ (List.mem_of_getElem? (i := 686) (by decide +kernel))) rfl
theorem kw_688 : Cond.instanceMethod yX8_readOld ∈ xg := xg_in (List.mem_append_right _ (List.mem_of_getElem? (i := 688) (by decide +kernel))) rfl
theorem kw_689 : Cond.code yX8_readOld cX8_readOld 2 (some .boolean) ∈ xg := xg_in (List.mem_append_right _ (List.mem_of_getElem? (i := 689) (by decide +kernel))) rfl
theorem kw_692 : Cond.instanceMethod yX6_passSign ∈ xg := xg_in (List.mem_append_right _ (List.mem_of_getElem? (i := 692) (by decide +kernel))) rfl
theorem kw_693 : Cond.code yX6_passSign cX6_passSign 2 (some .boolean) ∈ xg := xg_in (List.mem_append_right _ (List.mem_of_getElem? (i := 693) (by decide +kernel))) rfl
theorem kw_694 : Cond.methodLink RX6 76 yX6_isSign ∈ xg := xg_in (List.mem_append_right _ (List.mem_of_getElem? (i := 694) (by decide +kernel))) rfl
theorem kw_696 : Cond.instanceMethod yX6_isSign ∈ xg := xg_in (List.mem_append_right _ (List.mem_of_getElem? (i := 696) (by decide +kernel))) rfl
theorem kw_697 : Cond.code yX6_isSign cX6_isSign 2 (some .boolean) ∈ xg := xg_in (List.mem_append_right _ (List.mem_of_getElem? (i := 697) (by decide +kernel))) rfl
theorem kw_698 : Cond.methodLink RX6 80 yX6_pass ∈ xg := xg_in (List.mem_append_right _ (List.mem_of_getElem? (i := 698) (by decide +kernel))) rfl
theorem kw_7 : Cond.initialized RX7 ∈ xg := xg_in (List.mem_append_right _ (List.mem_of_getElem? (i := 7) (by decide +kernel))) rfl
theorem kw_70 : Cond.methodLink RJ0 1059 yJ3_checkIndex_8e157 ∈ xg := xg_in (List.mem_append_right _ (List.mem_of_getElem? (i := 70) (by decide +kernel))) rfl
theorem kw_701 : Cond.instanceMethod yX7_copyFrom ∈ xg := xg_in (List.mem_append_right _ (List.mem_of_getElem? (i := 701) (by decide +kernel))) rfl
theorem kw_702 : Cond.code yX7_copyFrom cX7_copyFrom 2 none ∈ xg := xg_in (List.mem_append_right _ (List.mem_of_getElem? (i := 702) (by decide +kernel))) rfl
theorem kw_704 : Cond.static yX11_copyRow_ ∈ xg := xg_in (List.mem_append_right _ (List.mem_of_getElem? (i := 704) (by decide +kernel))) rfl
theorem kw_705 : Cond.code yX11_copyRow_ cX11_copyRow_ 2 none ∈ xg := xg_in (List.mem_append_right _ (List.mem_of_getElem? (i := 705) (by decide +kernel))) rfl
theorem kw_706 : Cond.methodLink RX11 248 Lib.Math.min.name ∈ xg := xg_in (List.mem_append_right _ (List.mem_of_getElem? (i := 706) (by decide +kernel))) rfl
theorem kw_707 : Cond.static Lib.Math.min.name ∈ xg := xg_in (List.mem_append_right _ (List.mem_of_getElem? (i := 707) (by decide +kernel))) rfl
theorem kw_708 : Cond.code Lib.Math.min.name Lib.Math.min.code 2 (some .int) ∈ xg := xg_in (List.mem_append_right _ (List.mem_of_getElem? (i := 708) (by decide +kernel))) rfl
theorem kw_709 : Cond.methodLink RX11 377 arraycopyName ∈ xg := xg_in (List.mem_append_right _ (List.mem_of_getElem? (i := 709) (by decide +kernel))) rfl
theorem kw_71 : Cond.static yJ3_checkIndex_8e157 ∈ xg := xg_in (List.mem_append_right _ (List.mem_of_getElem? (i := 71) (by decide +kernel))) rfl
theorem kw_710 : Cond.static arraycopyName ∈ xg := xg_in (List.mem_append_right _ (List.mem_of_getElem? (i := 710) (by decide +kernel))) rfl
theorem kw_711 : Cond.native arraycopyName ∈ xg := xg_in (List.mem_append_right _ (List.mem_of_getElem? (i := 711) (by decide +kernel))) rfl
theorem kw_713 : Cond.static yX11_copyRow ∈ xg := xg_in (List.mem_append_right _ (List.mem_of_getElem? (i := 713) (by decide +kernel))) rfl
theorem kw_714 : Cond.code yX11_copyRow cX11_copyRow 2 none ∈ xg := xg_in (List.mem_append_right _ (List.mem_of_getElem? (i := 714) (by decide +kernel))) rfl
theorem kw_717 : Cond.instanceMethod yX2_begin ∈ xg := xg_in (List.mem_append_right _ (List.mem_of_getElem? (i := 717) (by decide +kernel))) rfl
theorem kw_718 : Cond.code yX2_begin cX2_begin 2 none ∈ xg := xg_in (List.mem_append_right _ (List.mem_of_getElem? (i := 718) (by decide +kernel))) rfl
theorem kw_719 : Cond.methodLink RX2 71 Lib.Math.max.name ∈ xg := xg_in (List.mem_append_right _ (List.mem_of_getElem? (i := 719) (by decide +kernel))) rfl
theorem kw_72 : Cond.code yJ3_checkIndex_8e157 cJ3_checkIndex_8e157 3 (some .int) ∈ xg := xg_in (List.mem_append_right _ (List.mem_of_getElem? (i := 72) (by decide +kernel))) rfl
theorem kw_720 : Cond.static Lib.Math.max.name ∈ xg := xg_in (List.mem_append_right _ (List.mem_of_getElem? (i := 720) (by decide +kernel))) rfl
theorem kw_721 : Cond.code Lib.Math.max.name Lib.Math.max.code 2 (some .int) ∈ xg := xg_in (List.mem_append_right _ (List.mem_of_getElem? (i := 721) (by decide +kernel))) rfl
theorem kw_723 : Cond.methodLink RX2 87 yX2_give ∈ xg := xg_in (List.mem_append_right _ (List.mem_of_getElem? (i := 723) (by decide +kernel))) rfl
theorem kw_725 : Cond.instanceMethod yX2_give ∈ xg := xg_in (List.mem_append_right _ (List.mem_of_getElem? (i := 725) (by decide +kernel))) rfl
theorem kw_726 : Cond.code yX2_give cX2_give 3 none ∈ xg := xg_in (List.mem_append_right _ (List.mem_of_getElem? (i := 726) (by decide +kernel))) rfl
theorem kw_727 : Cond.methodLink RX2 91 yX2_joinQueue ∈ xg := xg_in (List.mem_append_right _ (List.mem_of_getElem? (i := 727) (by decide +kernel))) rfl
theorem kw_729 : Cond.instanceMethod yX2_joinQueue ∈ xg := xg_in (List.mem_append_right _ (List.mem_of_getElem? (i := 729) (by decide +kernel))) rfl
theorem kw_73 : Cond.methodLink RJ0 498 yJ2_charAt_3b067 ∈ xg := xg_in (List.mem_append_right _ (List.mem_of_getElem? (i := 73) (by decide +kernel))) rfl
theorem kw_730 : Cond.code yX2_joinQueue cX2_joinQueue 2 none ∈ xg := xg_in (List.mem_append_right _ (List.mem_of_getElem? (i := 730) (by decide +kernel))) rfl
theorem kw_733 : Cond.instanceMethod yX9_forget ∈ xg := xg_in (List.mem_append_right _ (List.mem_of_getElem? (i := 733) (by decide +kernel))) rfl
theorem kw_734 : Cond.code yX9_forget cX9_forget 1 none ∈ xg := xg_in (List.mem_append_right _ (List.mem_of_getElem? (i := 734) (by decide +kernel))) rfl
theorem kw_74 : Cond.static yJ2_charAt_3b067 ∈ xg := xg_in (List.mem_append_right _ (List.mem_of_getElem? (i := 74) (by decide +kernel))) rfl
theorem kw_746 : Cond.instanceMethod yX2_cost ∈ xg := xg_in (List.mem_append_right _ (List.mem_of_getElem? (i := 746) (by decide +kernel))) rfl
theorem kw_747 : Cond.code yX2_cost cX2_cost 2 (some .int) ∈ xg := xg_in (List.mem_append_right _ (List.mem_of_getElem? (i := 747) (by decide +kernel))) rfl
theorem kw_748 : Cond.methodLink RX2 109 yX2_hangedYet ∈ xg := xg_in (List.mem_append_right _ (List.mem_of_getElem? (i := 748) (by decide +kernel))) rfl
theorem kw_75 : Cond.code yJ2_charAt_3b067 cJ2_charAt_3b067 2 (some .char) ∈ xg := xg_in (List.mem_append_right _ (List.mem_of_getElem? (i := 75) (by decide +kernel))) rfl
theorem kw_750 : Cond.instanceMethod yX2_hangedYet ∈ xg := xg_in (List.mem_append_right _ (List.mem_of_getElem? (i := 750) (by decide +kernel))) rfl
theorem kw_751 : Cond.code yX2_hangedYet cX2_hangedYet 2 (some .int) ∈ xg := xg_in (List.mem_append_right _ (List.mem_of_getElem? (i := 751) (by decide +kernel))) rfl
theorem kw_754 : Cond.instanceMethod yX2_isSour ∈ xg := xg_in (List.mem_append_right _ (List.mem_of_getElem? (i := 754) (by decide +kernel))) rfl
theorem kw_755 : Cond.code yX2_isSour cX2_isSour 2 (some .boolean) ∈ xg := xg_in (List.mem_append_right _ (List.mem_of_getElem? (i := 755) (by decide +kernel))) rfl
theorem kw_757 : Cond.static yX11_hasBit ∈ xg := xg_in (List.mem_append_right _ (List.mem_of_getElem? (i := 757) (by decide +kernel))) rfl
theorem kw_758 : Cond.code yX11_hasBit cX11_hasBit 2 (some .boolean) ∈ xg := xg_in (List.mem_append_right _ (List.mem_of_getElem? (i := 758) (by decide +kernel))) rfl
theorem kw_76 : Cond.methodLink RJ2 67 yJ2_checkIndex_2214a ∈ xg := xg_in (List.mem_append_right _ (List.mem_of_getElem? (i := 76) (by decide +kernel))) rfl
theorem kw_77 : Cond.static yJ2_checkIndex_2214a ∈ xg := xg_in (List.mem_append_right _ (List.mem_of_getElem? (i := 77) (by decide +kernel))) rfl
theorem kw_772 : Cond.instanceMethod yX2_freeNames ∈ xg := xg_in (List.mem_append_right _ (List.mem_of_getElem? (i := 772) (by decide +kernel))) rfl
theorem kw_773 : Cond.code yX2_freeNames cX2_freeNames 3 (some .int) ∈ xg := xg_in (List.mem_append_right _ (List.mem_of_getElem? (i := 773) (by decide +kernel))) rfl
theorem kw_774 : Cond.methodLink RX11 219 yX11_sum ∈ xg := xg_in (List.mem_append_right _ (List.mem_of_getElem? (i := 774) (by decide +kernel))) rfl
theorem kw_775 : Cond.static yX11_sum ∈ xg := xg_in (List.mem_append_right _ (List.mem_of_getElem? (i := 775) (by decide +kernel))) rfl
theorem kw_776 : Cond.code yX11_sum cX11_sum 4 (some .int) ∈ xg := xg_in (List.mem_append_right _ (List.mem_of_getElem? (i := 776) (by decide +kernel))) rfl
theorem kw_78 : Cond.code yJ2_checkIndex_2214a cJ2_checkIndex_2214a 2 none ∈ xg := xg_in (List.mem_append_right _ (List.mem_of_getElem? (i := 78) (by decide +kernel))) rfl
theorem kw_781 : Cond.methodLink RX11 229 yX11_attempt ∈ xg := xg_in (List.mem_append_right _ (List.mem_of_getElem? (i := 781) (by decide +kernel))) rfl
theorem kw_783 : Cond.instanceMethod yX11_attempt ∈ xg := xg_in (List.mem_append_right _ (List.mem_of_getElem? (i := 783) (by decide +kernel))) rfl
theorem kw_784 : Cond.code yX11_attempt cX11_attempt 5 (some .int) ∈ xg := xg_in (List.mem_append_right _ (List.mem_of_getElem? (i := 784) (by decide +kernel))) rfl
theorem kw_787 : Cond.instanceMethod yX2_whyNot ∈ xg := xg_in (List.mem_append_right _ (List.mem_of_getElem? (i := 787) (by decide +kernel))) rfl
theorem kw_788 : Cond.code yX2_whyNot cX2_whyNot 4 (some .int) ∈ xg := xg_in (List.mem_append_right _ (List.mem_of_getElem? (i := 788) (by decide +kernel))) rfl
theorem kw_789 : Cond.methodLink RX2 119 yX2_whyNotTake ∈ xg := xg_in (List.mem_append_right _ (List.mem_of_getElem? (i := 789) (by decide +kernel))) rfl
theorem kw_79 : Cond.methodLink RJ2 48 yJ2_length_9d52b ∈ xg := xg_in (List.mem_append_right _ (List.mem_of_getElem? (i := 79) (by decide +kernel))) rfl
theorem kw_791 : Cond.instanceMethod yX2_whyNotTake ∈ xg := xg_in (List.mem_append_right _ (List.mem_of_getElem? (i := 791) (by decide +kernel))) rfl
theorem kw_792 : Cond.code yX2_whyNotTake cX2_whyNotTake 3 (some .int) ∈ xg := xg_in (List.mem_append_right _ (List.mem_of_getElem? (i := 792) (by decide +kernel))) rfl
theorem kw_793 : Cond.methodLink RX2 106 yX2_isAlive ∈ xg := xg_in (List.mem_append_right _ (List.mem_of_getElem? (i := 793) (by decide +kernel))) rfl
theorem kw_795 : Cond.instanceMethod yX2_isAlive ∈ xg := xg_in (List.mem_append_right _ (List.mem_of_getElem? (i := 795) (by decide +kernel))) rfl
theorem kw_796 : Cond.code yX2_isAlive cX2_isAlive 2 (some .boolean) ∈ xg := xg_in (List.mem_append_right _ (List.mem_of_getElem? (i := 796) (by decide +kernel))) rfl
theorem kw_797 : Cond.methodLink RX2 156 yX2_isSour ∈ xg := xg_in (List.mem_append_right _ (List.mem_of_getElem? (i := 797) (by decide +kernel))) rfl
theorem kw_798 : Cond.methodLink RX2 159 yX2_waitAhead ∈ xg := xg_in (List.mem_append_right _ (List.mem_of_getElem? (i := 798) (by decide +kernel))) rfl
theorem kw_8 : Cond.initialized RX8 ∈ xg := xg_in (List.mem_append_right _ (List.mem_of_getElem? (i := 8) (by decide +kernel))) rfl
theorem kw_80 : Cond.static yJ2_length_9d52b ∈ xg := xg_in (List.mem_append_right _ (List.mem_of_getElem? (i := 80) (by decide +kernel))) rfl
theorem kw_800 : Cond.instanceMethod yX2_waitAhead ∈ xg := xg_in (List.mem_append_right _ (List.mem_of_getElem? (i := 800) (by decide +kernel))) rfl
theorem kw_801 : Cond.code yX2_waitAhead cX2_waitAhead 3 (some .int) ∈ xg := xg_in (List.mem_append_right _ (List.mem_of_getElem? (i := 801) (by decide +kernel))) rfl
theorem kw_802 : Cond.methodLink RX2 162 yX2_cost ∈ xg := xg_in (List.mem_append_right _ (List.mem_of_getElem? (i := 802) (by decide +kernel))) rfl
theorem kw_803 : Cond.methodLink RX2 122 yX2_whyNotSwap ∈ xg := xg_in (List.mem_append_right _ (List.mem_of_getElem? (i := 803) (by decide +kernel))) rfl
theorem kw_805 : Cond.instanceMethod yX2_whyNotSwap ∈ xg := xg_in (List.mem_append_right _ (List.mem_of_getElem? (i := 805) (by decide +kernel))) rfl
theorem kw_806 : Cond.code yX2_whyNotSwap cX2_whyNotSwap 3 (some .int) ∈ xg := xg_in (List.mem_append_right _ (List.mem_of_getElem? (i := 806) (by decide +kernel))) rfl
theorem kw_807 : Cond.methodLink RX2 165 yX2_hasChanged ∈ xg := xg_in (List.mem_append_right _ (List.mem_of_getElem? (i := 807) (by decide +kernel))) rfl
theorem kw_809 : Cond.instanceMethod yX2_hasChanged ∈ xg := xg_in (List.mem_append_right _ (List.mem_of_getElem? (i := 809) (by decide +kernel))) rfl
theorem kw_81 : Cond.code yJ2_length_9d52b cJ2_length_9d52b 1 (some .int) ∈ xg := xg_in (List.mem_append_right _ (List.mem_of_getElem? (i := 81) (by decide +kernel))) rfl
theorem kw_810 : Cond.code yX2_hasChanged cX2_hasChanged 2 (some .boolean) ∈ xg := xg_in (List.mem_append_right _ (List.mem_of_getElem? (i := 810) (by decide +kernel))) rfl
theorem kw_811 : Cond.methodLink RX2 125 yX2_whyNotSell ∈ xg := xg_in (List.mem_append_right _ (List.mem_of_getElem? (i := 811) (by decide +kernel))) rfl
theorem kw_813 : Cond.instanceMethod yX2_whyNotSell ∈ xg := xg_in (List.mem_append_right _ (List.mem_of_getElem? (i := 813) (by decide +kernel))) rfl
theorem kw_814 : Cond.code yX2_whyNotSell cX2_whyNotSell 3 (some .int) ∈ xg := xg_in (List.mem_append_right _ (List.mem_of_getElem? (i := 814) (by decide +kernel))) rfl
theorem kw_815 : Cond.methodLink RX2 128 yX2_whyNotFlee ∈ xg := xg_in (List.mem_append_right _ (List.mem_of_getElem? (i := 815) (by decide +kernel))) rfl
theorem kw_817 : Cond.instanceMethod yX2_whyNotFlee ∈ xg := xg_in (List.mem_append_right _ (List.mem_of_getElem? (i := 817) (by decide +kernel))) rfl
theorem kw_818 : Cond.code yX2_whyNotFlee cX2_whyNotFlee 2 (some .int) ∈ xg := xg_in (List.mem_append_right _ (List.mem_of_getElem? (i := 818) (by decide +kernel))) rfl
theorem kw_819 : Cond.methodLink RX2 131 yX2_whyNotPay ∈ xg := xg_in (List.mem_append_right _ (List.mem_of_getElem? (i := 819) (by decide +kernel))) rfl
theorem kw_82 : Cond.methodLink RJ2 414 yJ0_checkIndex_df160 ∈ xg := xg_in (List.mem_append_right _ (List.mem_of_getElem? (i := 82) (by decide +kernel))) rfl
theorem kw_821 : Cond.instanceMethod yX2_whyNotPay ∈ xg := xg_in (List.mem_append_right _ (List.mem_of_getElem? (i := 821) (by decide +kernel))) rfl
theorem kw_822 : Cond.code yX2_whyNotPay cX2_whyNotPay 3 (some .int) ∈ xg := xg_in (List.mem_append_right _ (List.mem_of_getElem? (i := 822) (by decide +kernel))) rfl
theorem kw_823 : Cond.methodLink RX2 168 yX2_owed ∈ xg := xg_in (List.mem_append_right _ (List.mem_of_getElem? (i := 823) (by decide +kernel))) rfl
theorem kw_825 : Cond.instanceMethod yX2_owed ∈ xg := xg_in (List.mem_append_right _ (List.mem_of_getElem? (i := 825) (by decide +kernel))) rfl
theorem kw_826 : Cond.code yX2_owed cX2_owed 3 (some .int) ∈ xg := xg_in (List.mem_append_right _ (List.mem_of_getElem? (i := 826) (by decide +kernel))) rfl
theorem kw_829 : Cond.instanceMethod yX9_keep ∈ xg := xg_in (List.mem_append_right _ (List.mem_of_getElem? (i := 829) (by decide +kernel))) rfl
theorem kw_83 : Cond.methodLink RJ2 71 yJ2_getChar_3b067 ∈ xg := xg_in (List.mem_append_right _ (List.mem_of_getElem? (i := 83) (by decide +kernel))) rfl
theorem kw_830 : Cond.code yX9_keep cX9_keep 2 none ∈ xg := xg_in (List.mem_append_right _ (List.mem_of_getElem? (i := 830) (by decide +kernel))) rfl
theorem kw_833 : Cond.instanceMethod yX2_copyFrom ∈ xg := xg_in (List.mem_append_right _ (List.mem_of_getElem? (i := 833) (by decide +kernel))) rfl
theorem kw_834 : Cond.code yX2_copyFrom cX2_copyFrom 2 none ∈ xg := xg_in (List.mem_append_right _ (List.mem_of_getElem? (i := 834) (by decide +kernel))) rfl
theorem kw_837 : Cond.methodLink RX9 29 Lib.Math.min.name ∈ xg := xg_in (List.mem_append_right _ (List.mem_of_getElem? (i := 837) (by decide +kernel))) rfl
theorem kw_84 : Cond.static yJ2_getChar_3b067 ∈ xg := xg_in (List.mem_append_right _ (List.mem_of_getElem? (i := 84) (by decide +kernel))) rfl
theorem kw_840 : Cond.instanceMethod yX2_act ∈ xg := xg_in (List.mem_append_right _ (List.mem_of_getElem? (i := 840) (by decide +kernel))) rfl
theorem kw_841 : Cond.code yX2_act cX2_act 4 none ∈ xg := xg_in (List.mem_append_right _ (List.mem_of_getElem? (i := 841) (by decide +kernel))) rfl
theorem kw_842 : Cond.methodLink RX2 134 yX2_buyFree ∈ xg := xg_in (List.mem_append_right _ (List.mem_of_getElem? (i := 842) (by decide +kernel))) rfl
theorem kw_844 : Cond.instanceMethod yX2_buyFree ∈ xg := xg_in (List.mem_append_right _ (List.mem_of_getElem? (i := 844) (by decide +kernel))) rfl
theorem kw_845 : Cond.code yX2_buyFree cX2_buyFree 3 none ∈ xg := xg_in (List.mem_append_right _ (List.mem_of_getElem? (i := 845) (by decide +kernel))) rfl
theorem kw_846 : Cond.methodLink RX2 171 yX2_leaveQueue ∈ xg := xg_in (List.mem_append_right _ (List.mem_of_getElem? (i := 846) (by decide +kernel))) rfl
theorem kw_848 : Cond.instanceMethod yX2_leaveQueue ∈ xg := xg_in (List.mem_append_right _ (List.mem_of_getElem? (i := 848) (by decide +kernel))) rfl
theorem kw_849 : Cond.code yX2_leaveQueue cX2_leaveQueue 3 none ∈ xg := xg_in (List.mem_append_right _ (List.mem_of_getElem? (i := 849) (by decide +kernel))) rfl
theorem kw_85 : Cond.code yJ2_getChar_3b067 cJ2_getChar_3b067 2 (some .char) ∈ xg := xg_in (List.mem_append_right _ (List.mem_of_getElem? (i := 85) (by decide +kernel))) rfl
theorem kw_850 : Cond.methodLink RX2 182 arraycopyName ∈ xg := xg_in (List.mem_append_right _ (List.mem_of_getElem? (i := 850) (by decide +kernel))) rfl
theorem kw_851 : Cond.methodLink RX2 137 yX2_exchange ∈ xg := xg_in (List.mem_append_right _ (List.mem_of_getElem? (i := 851) (by decide +kernel))) rfl
theorem kw_853 : Cond.instanceMethod yX2_exchange ∈ xg := xg_in (List.mem_append_right _ (List.mem_of_getElem? (i := 853) (by decide +kernel))) rfl
theorem kw_854 : Cond.code yX2_exchange cX2_exchange 4 none ∈ xg := xg_in (List.mem_append_right _ (List.mem_of_getElem? (i := 854) (by decide +kernel))) rfl
theorem kw_855 : Cond.methodLink RX2 140 yX2_handOver ∈ xg := xg_in (List.mem_append_right _ (List.mem_of_getElem? (i := 855) (by decide +kernel))) rfl
theorem kw_857 : Cond.instanceMethod yX2_handOver ∈ xg := xg_in (List.mem_append_right _ (List.mem_of_getElem? (i := 857) (by decide +kernel))) rfl
theorem kw_858 : Cond.code yX2_handOver cX2_handOver 4 none ∈ xg := xg_in (List.mem_append_right _ (List.mem_of_getElem? (i := 858) (by decide +kernel))) rfl
theorem kw_859 : Cond.methodLink RX2 143 yX2_runAway ∈ xg := xg_in (List.mem_append_right _ (List.mem_of_getElem? (i := 859) (by decide +kernel))) rfl
theorem kw_86 : Cond.fieldLink RJ2 44 RJ2 "$assertionsDisabled" "Z" ∈ xg := xg_in (List.mem_append_right _ (List.mem_of_getElem? (i := 86) (by decide +kernel))) rfl
theorem kw_861 : Cond.instanceMethod yX2_runAway ∈ xg := xg_in (List.mem_append_right _ (List.mem_of_getElem? (i := 861) (by decide +kernel))) rfl
theorem kw_862 : Cond.code yX2_runAway cX2_runAway 2 none ∈ xg := xg_in (List.mem_append_right _ (List.mem_of_getElem? (i := 862) (by decide +kernel))) rfl
theorem kw_863 : Cond.methodLink RX2 174 yX2_loseName ∈ xg := xg_in (List.mem_append_right _ (List.mem_of_getElem? (i := 863) (by decide +kernel))) rfl
theorem kw_865 : Cond.instanceMethod yX2_loseName ∈ xg := xg_in (List.mem_append_right _ (List.mem_of_getElem? (i := 865) (by decide +kernel))) rfl
theorem kw_866 : Cond.code yX2_loseName cX2_loseName 2 none ∈ xg := xg_in (List.mem_append_right _ (List.mem_of_getElem? (i := 866) (by decide +kernel))) rfl
theorem kw_867 : Cond.methodLink RX2 146 yX2_payOff ∈ xg := xg_in (List.mem_append_right _ (List.mem_of_getElem? (i := 867) (by decide +kernel))) rfl
theorem kw_869 : Cond.instanceMethod yX2_payOff ∈ xg := xg_in (List.mem_append_right _ (List.mem_of_getElem? (i := 869) (by decide +kernel))) rfl
theorem kw_870 : Cond.code yX2_payOff cX2_payOff 3 none ∈ xg := xg_in (List.mem_append_right _ (List.mem_of_getElem? (i := 870) (by decide +kernel))) rfl
theorem kw_871 : Cond.methodLink RX2 149 yX2_passMondays ∈ xg := xg_in (List.mem_append_right _ (List.mem_of_getElem? (i := 871) (by decide +kernel))) rfl
theorem kw_873 : Cond.instanceMethod yX2_passMondays ∈ xg := xg_in (List.mem_append_right _ (List.mem_of_getElem? (i := 873) (by decide +kernel))) rfl
theorem kw_874 : Cond.code yX2_passMondays cX2_passMondays 3 none ∈ xg := xg_in (List.mem_append_right _ (List.mem_of_getElem? (i := 874) (by decide +kernel))) rfl
theorem kw_875 : Cond.methodLink RX2 188 yX2_endMonday ∈ xg := xg_in (List.mem_append_right _ (List.mem_of_getElem? (i := 875) (by decide +kernel))) rfl
theorem kw_877 : Cond.instanceMethod yX2_endMonday ∈ xg := xg_in (List.mem_append_right _ (List.mem_of_getElem? (i := 877) (by decide +kernel))) rfl
theorem kw_878 : Cond.code yX2_endMonday cX2_endMonday 4 none ∈ xg := xg_in (List.mem_append_right _ (List.mem_of_getElem? (i := 878) (by decide +kernel))) rfl
theorem kw_88 : Cond.fieldLink RJ2 59 RJ2 "HI_BYTE_SHIFT" "I" ∈ xg := xg_in (List.mem_append_right _ (List.mem_of_getElem? (i := 88) (by decide +kernel))) rfl
theorem kw_881 : Cond.instanceMethod yX7_isFeast ∈ xg := xg_in (List.mem_append_right _ (List.mem_of_getElem? (i := 881) (by decide +kernel))) rfl
theorem kw_882 : Cond.code yX7_isFeast cX7_isFeast 3 (some .boolean) ∈ xg := xg_in (List.mem_append_right _ (List.mem_of_getElem? (i := 882) (by decide +kernel))) rfl
theorem kw_883 : Cond.methodLink RX2 194 yX2_feast ∈ xg := xg_in (List.mem_append_right _ (List.mem_of_getElem? (i := 883) (by decide +kernel))) rfl
theorem kw_885 : Cond.instanceMethod yX2_feast ∈ xg := xg_in (List.mem_append_right _ (List.mem_of_getElem? (i := 885) (by decide +kernel))) rfl
theorem kw_886 : Cond.code yX2_feast cX2_feast 2 none ∈ xg := xg_in (List.mem_append_right _ (List.mem_of_getElem? (i := 886) (by decide +kernel))) rfl
theorem kw_887 : Cond.methodLink RX2 152 yX2_perish ∈ xg := xg_in (List.mem_append_right _ (List.mem_of_getElem? (i := 887) (by decide +kernel))) rfl
theorem kw_889 : Cond.instanceMethod yX2_perish ∈ xg := xg_in (List.mem_append_right _ (List.mem_of_getElem? (i := 889) (by decide +kernel))) rfl
theorem kw_890 : Cond.code yX2_perish cX2_perish 4 none ∈ xg := xg_in (List.mem_append_right _ (List.mem_of_getElem? (i := 890) (by decide +kernel))) rfl
theorem kw_895 : Cond.methodLink RX11 233 yX11_areTwo ∈ xg := xg_in (List.mem_append_right _ (List.mem_of_getElem? (i := 895) (by decide +kernel))) rfl
theorem kw_897 : Cond.instanceMethod yX11_areTwo ∈ xg := xg_in (List.mem_append_right _ (List.mem_of_getElem? (i := 897) (by decide +kernel))) rfl
theorem kw_898 : Cond.code yX11_areTwo cX11_areTwo 3 (some .boolean) ∈ xg := xg_in (List.mem_append_right _ (List.mem_of_getElem? (i := 898) (by decide +kernel))) rfl
theorem kw_9 : Cond.initialized RX2 ∈ xg := xg_in (List.mem_append_right _ (List.mem_of_getElem? (i := 9) (by decide +kernel))) rfl
theorem kw_90 : Cond.fieldLink RJ2 63 RJ2 "LO_BYTE_SHIFT" "I" ∈ xg := xg_in (List.mem_append_right _ (List.mem_of_getElem? (i := 90) (by decide +kernel))) rfl
theorem kw_921 : Cond.instanceMethod yX2_drawLot ∈ xg := xg_in (List.mem_append_right _ (List.mem_of_getElem? (i := 921) (by decide +kernel))) rfl
theorem kw_922 : Cond.code yX2_drawLot cX2_drawLot 5 (some .int) ∈ xg := xg_in (List.mem_append_right _ (List.mem_of_getElem? (i := 922) (by decide +kernel))) rfl
theorem kw_925 : Cond.instanceMethod yX0_next ∈ xg := xg_in (List.mem_append_right _ (List.mem_of_getElem? (i := 925) (by decide +kernel))) rfl
theorem kw_926 : Cond.code yX0_next cX0_next 2 (some .int) ∈ xg := xg_in (List.mem_append_right _ (List.mem_of_getElem? (i := 926) (by decide +kernel))) rfl
theorem kw_927 : Cond.constant RX0 13 (1103515245) ∈ xg := xg_in (List.mem_append_right _ (List.mem_of_getElem? (i := 927) (by decide +kernel))) rfl
theorem kw_939 : Cond.instanceMethod yX9_takeBack ∈ xg := xg_in (List.mem_append_right _ (List.mem_of_getElem? (i := 939) (by decide +kernel))) rfl
theorem kw_94 : Cond.fieldLink RX6 11 RX6 "bytes" "[B" ∈ xg := xg_in (List.mem_append_right _ (List.mem_of_getElem? (i := 94) (by decide +kernel))) rfl
theorem kw_940 : Cond.code yX9_takeBack cX9_takeBack 2 (some .boolean) ∈ xg := xg_in (List.mem_append_right _ (List.mem_of_getElem? (i := 940) (by decide +kernel))) rfl
theorem kw_947 : Cond.instanceMethod yX2_hasGone ∈ xg := xg_in (List.mem_append_right _ (List.mem_of_getElem? (i := 947) (by decide +kernel))) rfl
theorem kw_948 : Cond.code yX2_hasGone cX2_hasGone 2 (some .boolean) ∈ xg := xg_in (List.mem_append_right _ (List.mem_of_getElem? (i := 948) (by decide +kernel))) rfl
theorem kw_95 : Cond.fieldLink RX6 15 RX6 "ownWords" "[J" ∈ xg := xg_in (List.mem_append_right _ (List.mem_of_getElem? (i := 95) (by decide +kernel))) rfl
theorem kw_951 : Cond.instanceMethod yX2_calledThen ∈ xg := xg_in (List.mem_append_right _ (List.mem_of_getElem? (i := 951) (by decide +kernel))) rfl
theorem kw_952 : Cond.code yX2_calledThen cX2_calledThen 3 (some .int) ∈ xg := xg_in (List.mem_append_right _ (List.mem_of_getElem? (i := 952) (by decide +kernel))) rfl
theorem kw_953 : Cond.methodLink RX2 215 yX2_hasGone ∈ xg := xg_in (List.mem_append_right _ (List.mem_of_getElem? (i := 953) (by decide +kernel))) rfl
theorem kw_954 : Cond.constantLong RX2 218 (15) ∈ xg := xg_in (List.mem_append_right _ (List.mem_of_getElem? (i := 954) (by decide +kernel))) rfl
theorem kw_96 : Cond.fieldLink RX6 35 RX6 "ownCount" "I" ∈ xg := xg_in (List.mem_append_right _ (List.mem_of_getElem? (i := 96) (by decide +kernel))) rfl
theorem kw_961 : Cond.instanceMethod yX2_holderThen ∈ xg := xg_in (List.mem_append_right _ (List.mem_of_getElem? (i := 961) (by decide +kernel))) rfl
theorem kw_962 : Cond.code yX2_holderThen cX2_holderThen 4 (some .int) ∈ xg := xg_in (List.mem_append_right _ (List.mem_of_getElem? (i := 962) (by decide +kernel))) rfl
theorem kw_963 : Cond.methodLink RX2 220 yX2_calledThen ∈ xg := xg_in (List.mem_append_right _ (List.mem_of_getElem? (i := 963) (by decide +kernel))) rfl
theorem kw_970 : Cond.instanceMethod yX2_timesCalled ∈ xg := xg_in (List.mem_append_right _ (List.mem_of_getElem? (i := 970) (by decide +kernel))) rfl
theorem kw_971 : Cond.code yX2_timesCalled cX2_timesCalled 5 (some .int) ∈ xg := xg_in (List.mem_append_right _ (List.mem_of_getElem? (i := 971) (by decide +kernel))) rfl
theorem kw_98 : Cond.fieldLink RX6 43 RX6 "length" "I" ∈ xg := xg_in (List.mem_append_right _ (List.mem_of_getElem? (i := 98) (by decide +kernel))) rfl
theorem kw_982 : Cond.instanceMethod yX10_findMondays ∈ xg := xg_in (List.mem_append_right _ (List.mem_of_getElem? (i := 982) (by decide +kernel))) rfl
theorem kw_983 : Cond.code yX10_findMondays cX10_findMondays 3 (some .int) ∈ xg := xg_in (List.mem_append_right _ (List.mem_of_getElem? (i := 983) (by decide +kernel))) rfl
theorem kw_984 : Cond.methodLink RX10 30 yX10_point ∈ xg := xg_in (List.mem_append_right _ (List.mem_of_getElem? (i := 984) (by decide +kernel))) rfl
theorem kw_986 : Cond.instanceMethod yX10_point ∈ xg := xg_in (List.mem_append_right _ (List.mem_of_getElem? (i := 986) (by decide +kernel))) rfl
theorem kw_987 : Cond.code yX10_point cX10_point 4 (some .boolean) ∈ xg := xg_in (List.mem_append_right _ (List.mem_of_getElem? (i := 987) (by decide +kernel))) rfl
theorem kw_99 : Cond.fieldLink RX6 45 RX6 "most" "I" ∈ xg := xg_in (List.mem_append_right _ (List.mem_of_getElem? (i := 99) (by decide +kernel))) rfl
theorem kw_991 : Cond.methodLink RX10 40 yX10_mondaysFor ∈ xg := xg_in (List.mem_append_right _ (List.mem_of_getElem? (i := 991) (by decide +kernel))) rfl
theorem kw_993 : Cond.instanceMethod yX10_mondaysFor ∈ xg := xg_in (List.mem_append_right _ (List.mem_of_getElem? (i := 993) (by decide +kernel))) rfl
theorem kw_994 : Cond.code yX10_mondaysFor cX10_mondaysFor 3 (some .int) ∈ xg := xg_in (List.mem_append_right _ (List.mem_of_getElem? (i := 994) (by decide +kernel))) rfl
theorem kw_995 : Cond.methodLink RX10 44 Lib.Math.max.name ∈ xg := xg_in (List.mem_append_right _ (List.mem_of_getElem? (i := 995) (by decide +kernel))) rfl
theorem kw_996 : Cond.methodLink RX10 50 yX10_pair ∈ xg := xg_in (List.mem_append_right _ (List.mem_of_getElem? (i := 996) (by decide +kernel))) rfl
theorem kw_998 : Cond.instanceMethod yX10_pair ∈ xg := xg_in (List.mem_append_right _ (List.mem_of_getElem? (i := 998) (by decide +kernel))) rfl
theorem kw_999 : Cond.code yX10_pair cX10_pair 3 none ∈ xg := xg_in (List.mem_append_right _ (List.mem_of_getElem? (i := 999) (by decide +kernel))) rfl
