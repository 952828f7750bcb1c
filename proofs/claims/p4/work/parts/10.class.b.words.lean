set_option maxRecDepth 100000 in
theorem kn_102 : Cond.fieldLinkNest RX8 34 RX6 "kind" "I" "NamesAgain" ∈ xn := xn_in (List.mem_append_right _ (List.mem_append_left _ (List.mem_of_getElem? (i := 102) rfl))) rfl
set_option maxRecDepth 100000 in
theorem kn_106 : Cond.fieldLinkNest RX4 56 RX6 "word" "J" "NamesAgain" ∈ xn := xn_in (List.mem_append_right _ (List.mem_append_left _ (List.mem_of_getElem? (i := 106) rfl))) rfl
set_option maxRecDepth 100000 in
theorem kn_107 : Cond.fieldLinkNest RX8 102 RX6 "word" "J" "NamesAgain" ∈ xn := xn_in (List.mem_append_right _ (List.mem_append_left _ (List.mem_of_getElem? (i := 107) rfl))) rfl
set_option maxRecDepth 100000 in
theorem kn_1132 : Cond.methodLinkNest RX11 325 yX2_copyFrom "NamesAgain" ∈ xn := xn_in (List.mem_append_right _ (List.mem_append_right _ (List.mem_append_right _ (List.mem_append_right _ (List.mem_append_right _ (List.mem_append_left _ (List.mem_of_getElem? (i := 172) rfl))))))) rfl
set_option maxRecDepth 100000 in
theorem kn_1137 : Cond.methodLinkNest RX11 327 yX4_read "NamesAgain" ∈ xn := xn_in (List.mem_append_right _ (List.mem_append_right _ (List.mem_append_right _ (List.mem_append_right _ (List.mem_append_right _ (List.mem_append_left _ (List.mem_of_getElem? (i := 177) rfl))))))) rfl
set_option maxRecDepth 100000 in
theorem kn_114 : Cond.fieldLinkNest RX8 113 RX6 "got" "I" "NamesAgain" ∈ xn := xn_in (List.mem_append_right _ (List.mem_append_left _ (List.mem_of_getElem? (i := 114) rfl))) rfl
set_option maxRecDepth 100000 in
theorem kn_1147 : Cond.methodLinkNest RX4 52 yX6_isWord "NamesAgain" ∈ xn := xn_in (List.mem_append_right _ (List.mem_append_right _ (List.mem_append_right _ (List.mem_append_right _ (List.mem_append_right _ (List.mem_append_left _ (List.mem_of_getElem? (i := 187) rfl))))))) rfl
set_option maxRecDepth 100000 in
theorem kn_1148 : Cond.methodLinkNest RX4 60 yX7_findSoul "NamesAgain" ∈ xn := xn_in (List.mem_append_right _ (List.mem_append_right _ (List.mem_append_right _ (List.mem_append_right _ (List.mem_append_right _ (List.mem_append_left _ (List.mem_of_getElem? (i := 188) rfl))))))) rfl
set_option maxRecDepth 100000 in
theorem kn_1149 : Cond.methodLinkNest RX4 66 yX6_passKnown "NamesAgain" ∈ xn := xn_in (List.mem_append_right _ (List.mem_append_right _ (List.mem_append_right _ (List.mem_append_right _ (List.mem_append_right _ (List.mem_append_left _ (List.mem_of_getElem? (i := 189) rfl))))))) rfl
set_option maxRecDepth 100000 in
theorem kn_1150 : Cond.methodLinkNest RX4 70 yX6_refuse "NamesAgain" ∈ xn := xn_in (List.mem_append_right _ (List.mem_append_right _ (List.mem_append_right _ (List.mem_append_right _ (List.mem_append_right _ (List.mem_append_left _ (List.mem_of_getElem? (i := 190) rfl))))))) rfl
set_option maxRecDepth 100000 in
theorem kn_1156 : Cond.methodLinkNest RX4 82 yX6_passNumber "NamesAgain" ∈ xn := xn_in (List.mem_append_right _ (List.mem_append_right _ (List.mem_append_right _ (List.mem_append_right _ (List.mem_append_right _ (List.mem_append_left _ (List.mem_of_getElem? (i := 196) rfl))))))) rfl
set_option maxRecDepth 100000 in
theorem kn_1162 : Cond.methodLinkNest RX4 91 yX6_pass "NamesAgain" ∈ xn := xn_in (List.mem_append_right _ (List.mem_append_right _ (List.mem_append_right _ (List.mem_append_right _ (List.mem_append_right _ (List.mem_append_left _ (List.mem_of_getElem? (i := 202) rfl))))))) rfl
set_option maxRecDepth 100000 in
theorem kn_1163 : Cond.methodLinkNest RX4 94 yX7_findName "NamesAgain" ∈ xn := xn_in (List.mem_append_right _ (List.mem_append_right _ (List.mem_append_right _ (List.mem_append_right _ (List.mem_append_right _ (List.mem_append_left _ (List.mem_of_getElem? (i := 203) rfl))))))) rfl
set_option maxRecDepth 100000 in
theorem kn_117 : Cond.fieldLinkNest RX11 119 RX6 "faultKind" "I" "NamesAgain" ∈ xn := xn_in (List.mem_append_right _ (List.mem_append_left _ (List.mem_of_getElem? (i := 117) rfl))) rfl
set_option maxRecDepth 100000 in
theorem kn_1171 : Cond.methodLinkNest RX11 328 yX4_judge "NamesAgain" ∈ xn := xn_in (List.mem_append_right _ (List.mem_append_right _ (List.mem_append_right _ (List.mem_append_right _ (List.mem_append_right _ (List.mem_append_left _ (List.mem_of_getElem? (i := 211) rfl))))))) rfl
set_option maxRecDepth 100000 in
theorem kn_1185 : Cond.methodLinkNest RX11 348 yX5_read "NamesAgain" ∈ xn := xn_in (List.mem_append_right _ (List.mem_append_right _ (List.mem_append_right _ (List.mem_append_right _ (List.mem_append_right _ (List.mem_append_left _ (List.mem_of_getElem? (i := 225) rfl))))))) rfl
set_option maxRecDepth 100000 in
theorem kn_119 : Cond.fieldLinkNest RX11 125 RX6 "faultPlace" "I" "NamesAgain" ∈ xn := xn_in (List.mem_append_right _ (List.mem_append_left _ (List.mem_of_getElem? (i := 119) rfl))) rfl
set_option maxRecDepth 100000 in
theorem kn_1207 : Cond.methodLinkNest RX5 64 yX6_isWord "NamesAgain" ∈ xn := xn_in (List.mem_append_right _ (List.mem_append_right _ (List.mem_append_right _ (List.mem_append_right _ (List.mem_append_right _ (List.mem_append_right _ (List.mem_append_left _ (List.mem_of_getElem? (i := 7) rfl)))))))) rfl
set_option maxRecDepth 100000 in
theorem kn_1218 : Cond.methodLinkNest RX5 56 yX6_refuse "NamesAgain" ∈ xn := xn_in (List.mem_append_right _ (List.mem_append_right _ (List.mem_append_right _ (List.mem_append_right _ (List.mem_append_right _ (List.mem_append_right _ (List.mem_append_left _ (List.mem_of_getElem? (i := 18) rfl)))))))) rfl
set_option maxRecDepth 100000 in
theorem kn_1234 : Cond.methodLinkNest RX11 349 yX5_copyFrom "NamesAgain" ∈ xn := xn_in (List.mem_append_right _ (List.mem_append_right _ (List.mem_append_right _ (List.mem_append_right _ (List.mem_append_right _ (List.mem_append_right _ (List.mem_append_left _ (List.mem_of_getElem? (i := 34) rfl)))))))) rfl
set_option maxRecDepth 100000 in
theorem kn_1354 : Cond.methodLinkNest RX11 181 yX2_isAlive "NamesAgain" ∈ xn := xn_in (List.mem_append_right _ (List.mem_append_right _ (List.mem_append_right _ (List.mem_append_right _ (List.mem_append_right _ (List.mem_append_right _ (List.mem_append_left _ (List.mem_of_getElem? (i := 154) rfl)))))))) rfl
set_option maxRecDepth 100000 in
theorem kn_1355 : Cond.methodLinkNest RX11 187 yX2_waitAhead "NamesAgain" ∈ xn := xn_in (List.mem_append_right _ (List.mem_append_right _ (List.mem_append_right _ (List.mem_append_right _ (List.mem_append_right _ (List.mem_append_right _ (List.mem_append_left _ (List.mem_of_getElem? (i := 155) rfl)))))))) rfl
set_option maxRecDepth 100000 in
theorem kn_1356 : Cond.methodLinkNest RX11 190 yX2_hasChanged "NamesAgain" ∈ xn := xn_in (List.mem_append_right _ (List.mem_append_right _ (List.mem_append_right _ (List.mem_append_right _ (List.mem_append_right _ (List.mem_append_right _ (List.mem_append_left _ (List.mem_of_getElem? (i := 156) rfl)))))))) rfl
set_option maxRecDepth 100000 in
theorem kn_1357 : Cond.methodLinkNest RX11 193 yX2_hasFled "NamesAgain" ∈ xn := xn_in (List.mem_append_right _ (List.mem_append_right _ (List.mem_append_right _ (List.mem_append_right _ (List.mem_append_right _ (List.mem_append_right _ (List.mem_append_left _ (List.mem_of_getElem? (i := 157) rfl)))))))) rfl
set_option maxRecDepth 100000 in
theorem kn_161 : Cond.fieldLinkNest RX8 96 RX7 "names" "I" "NamesAgain" ∈ xn := xn_in (List.mem_append_right _ (List.mem_append_left _ (List.mem_of_getElem? (i := 161) rfl))) rfl
set_option maxRecDepth 100000 in
theorem kn_166 : Cond.fieldLinkNest RX8 120 RX7 "souls" "I" "NamesAgain" ∈ xn := xn_in (List.mem_append_right _ (List.mem_append_left _ (List.mem_of_getElem? (i := 166) rfl))) rfl
set_option maxRecDepth 100000 in
theorem kn_176 : Cond.fieldLinkNest RX8 59 RX7 "firstDebt" "[I" "NamesAgain" ∈ xn := xn_in (List.mem_append_right _ (List.mem_append_left _ (List.mem_of_getElem? (i := 176) rfl))) rfl
set_option maxRecDepth 100000 in
theorem kn_178 : Cond.fieldLinkNest RX8 69 RX7 "every" "[I" "NamesAgain" ∈ xn := xn_in (List.mem_append_right _ (List.mem_append_left _ (List.mem_of_getElem? (i := 178) rfl))) rfl
set_option maxRecDepth 100000 in
theorem kn_185 : Cond.fieldLinkNest RX8 144 RX7 "firstName" "[I" "NamesAgain" ∈ xn := xn_in (List.mem_append_right _ (List.mem_append_left _ (List.mem_of_getElem? (i := 185) rfl))) rfl
set_option maxRecDepth 100000 in
theorem kn_188 : Cond.fieldLinkNest RX11 184 RX7 "wish" "[I" "NamesAgain" ∈ xn := xn_in (List.mem_append_right _ (List.mem_append_left _ (List.mem_of_getElem? (i := 188) rfl))) rfl
set_option maxRecDepth 100000 in
theorem kn_189 : Cond.fieldLinkNest RX8 154 RX7 "wish" "[I" "NamesAgain" ∈ xn := xn_in (List.mem_append_right _ (List.mem_append_left _ (List.mem_of_getElem? (i := 189) rfl))) rfl
set_option maxRecDepth 100000 in
theorem kn_192 : Cond.fieldLinkNest RX8 156 RX7 "old" "[I" "NamesAgain" ∈ xn := xn_in (List.mem_append_right _ (List.mem_append_left _ (List.mem_of_getElem? (i := 192) rfl))) rfl
set_option maxRecDepth 100000 in
theorem kn_195 : Cond.fieldLinkNest RX8 165 RX7 "worthRow" "[I" "NamesAgain" ∈ xn := xn_in (List.mem_append_right _ (List.mem_append_left _ (List.mem_of_getElem? (i := 195) rfl))) rfl
set_option maxRecDepth 100000 in
theorem kn_231 : Cond.fieldLinkNest RX11 140 RX8 "lineCount" "I" "NamesAgain" ∈ xn := xn_in (List.mem_append_right _ (List.mem_append_left _ (List.mem_of_getElem? (i := 231) rfl))) rfl
set_option maxRecDepth 100000 in
theorem kn_269 : Cond.fieldLinkNest RX11 175 RX2 "nameOf" "[I" "NamesAgain" ∈ xn := xn_in (List.mem_append_right _ (List.mem_append_right _ (List.mem_append_left _ (List.mem_of_getElem? (i := 29) rfl)))) rfl
set_option maxRecDepth 100000 in
theorem kn_273 : Cond.fieldLinkNest RX11 178 RX2 "purse" "[I" "NamesAgain" ∈ xn := xn_in (List.mem_append_right _ (List.mem_append_right _ (List.mem_append_left _ (List.mem_of_getElem? (i := 33) rfl)))) rfl
set_option maxRecDepth 100000 in
theorem kn_276 : Cond.fieldLinkNest RX11 196 RX2 "feasted" "[I" "NamesAgain" ∈ xn := xn_in (List.mem_append_right _ (List.mem_append_right _ (List.mem_append_left _ (List.mem_of_getElem? (i := 36) rfl)))) rfl
set_option maxRecDepth 100000 in
theorem kn_392 : Cond.fieldLinkNest RX11 137 RX5 "ones" "I" "NamesAgain" ∈ xn := xn_in (List.mem_append_right _ (List.mem_append_right _ (List.mem_append_left _ (List.mem_of_getElem? (i := 152) rfl)))) rfl
set_option maxRecDepth 100000 in
theorem kn_546 : Cond.methodLinkNest RX11 103 yX6_hasRoom "NamesAgain" ∈ xn := xn_in (List.mem_append_right _ (List.mem_append_right _ (List.mem_append_right _ (List.mem_append_left _ (List.mem_of_getElem? (i := 66) rfl))))) rfl
set_option maxRecDepth 100000 in
theorem kn_550 : Cond.methodLinkNest RX11 107 yX6_put "NamesAgain" ∈ xn := xn_in (List.mem_append_right _ (List.mem_append_right _ (List.mem_append_right _ (List.mem_append_left _ (List.mem_of_getElem? (i := 70) rfl))))) rfl
set_option maxRecDepth 100000 in
theorem kn_562 : Cond.methodLinkNest RX11 115 yX8_read "NamesAgain" ∈ xn := xn_in (List.mem_append_right _ (List.mem_append_right _ (List.mem_append_right _ (List.mem_append_left _ (List.mem_of_getElem? (i := 82) rfl))))) rfl
set_option maxRecDepth 100000 in
theorem kn_566 : Cond.methodLinkNest RX8 19 yX7_clear "NamesAgain" ∈ xn := xn_in (List.mem_append_right _ (List.mem_append_right _ (List.mem_append_right _ (List.mem_append_left _ (List.mem_of_getElem? (i := 86) rfl))))) rfl
set_option maxRecDepth 100000 in
theorem kn_570 : Cond.methodLinkNest RX8 24 yX6_startText "NamesAgain" ∈ xn := xn_in (List.mem_append_right _ (List.mem_append_right _ (List.mem_append_right _ (List.mem_append_left _ (List.mem_of_getElem? (i := 90) rfl))))) rfl
set_option maxRecDepth 100000 in
theorem kn_583 : Cond.methodLinkNest RX8 47 yX6_isWord "NamesAgain" ∈ xn := xn_in (List.mem_append_right _ (List.mem_append_right _ (List.mem_append_right _ (List.mem_append_left _ (List.mem_of_getElem? (i := 103) rfl))))) rfl
set_option maxRecDepth 100000 in
theorem kn_591 : Cond.methodLinkNest RX8 92 yX6_refuse "NamesAgain" ∈ xn := xn_in (List.mem_append_right _ (List.mem_append_right _ (List.mem_append_right _ (List.mem_append_left _ (List.mem_of_getElem? (i := 111) rfl))))) rfl
set_option maxRecDepth 100000 in
theorem kn_595 : Cond.methodLinkNest RX8 99 yX6_advance "NamesAgain" ∈ xn := xn_in (List.mem_append_right _ (List.mem_append_right _ (List.mem_append_right _ (List.mem_append_left _ (List.mem_of_getElem? (i := 115) rfl))))) rfl
set_option maxRecDepth 100000 in
theorem kn_600 : Cond.methodLinkNest RX8 168 yX6_canBeNameOrSoul "NamesAgain" ∈ xn := xn_in (List.mem_append_right _ (List.mem_append_right _ (List.mem_append_right _ (List.mem_append_left _ (List.mem_of_getElem? (i := 120) rfl))))) rfl
set_option maxRecDepth 100000 in
theorem kn_604 : Cond.methodLinkNest RX8 131 yX7_findName "NamesAgain" ∈ xn := xn_in (List.mem_append_right _ (List.mem_append_right _ (List.mem_append_right _ (List.mem_append_left _ (List.mem_of_getElem? (i := 124) rfl))))) rfl
set_option maxRecDepth 100000 in
theorem kn_611 : Cond.methodLinkNest RX8 151 yX7_findSoul "NamesAgain" ∈ xn := xn_in (List.mem_append_right _ (List.mem_append_right _ (List.mem_append_right _ (List.mem_append_left _ (List.mem_of_getElem? (i := 131) rfl))))) rfl
set_option maxRecDepth 100000 in
theorem kn_615 : Cond.methodLinkNest RX8 56 yX6_pass "NamesAgain" ∈ xn := xn_in (List.mem_append_right _ (List.mem_append_right _ (List.mem_append_right _ (List.mem_append_left _ (List.mem_of_getElem? (i := 135) rfl))))) rfl
set_option maxRecDepth 100000 in
theorem kn_619 : Cond.methodLinkNest RX8 109 yX6_passNumber "NamesAgain" ∈ xn := xn_in (List.mem_append_right _ (List.mem_append_right _ (List.mem_append_right _ (List.mem_append_left _ (List.mem_of_getElem? (i := 139) rfl))))) rfl
set_option maxRecDepth 100000 in
theorem kn_624 : Cond.methodLinkNest RX8 116 yX7_addName "NamesAgain" ∈ xn := xn_in (List.mem_append_right _ (List.mem_append_right _ (List.mem_append_right _ (List.mem_append_left _ (List.mem_of_getElem? (i := 144) rfl))))) rfl
set_option maxRecDepth 100000 in
theorem kn_637 : Cond.methodLinkNest RX8 138 yX6_passKnown "NamesAgain" ∈ xn := xn_in (List.mem_append_right _ (List.mem_append_right _ (List.mem_append_right _ (List.mem_append_left _ (List.mem_of_getElem? (i := 157) rfl))))) rfl
set_option maxRecDepth 100000 in
theorem kn_648 : Cond.methodLinkNest RX8 123 yX7_addSoul "NamesAgain" ∈ xn := xn_in (List.mem_append_right _ (List.mem_append_right _ (List.mem_append_right _ (List.mem_append_left _ (List.mem_of_getElem? (i := 168) rfl))))) rfl
set_option maxRecDepth 100000 in
theorem kn_657 : Cond.methodLinkNest RX8 135 yX7_isBorneAtFirst "NamesAgain" ∈ xn := xn_in (List.mem_append_right _ (List.mem_append_right _ (List.mem_append_right _ (List.mem_append_left _ (List.mem_of_getElem? (i := 177) rfl))))) rfl
set_option maxRecDepth 100000 in
theorem kn_661 : Cond.methodLinkNest RX8 141 yX7_isSoul "NamesAgain" ∈ xn := xn_in (List.mem_append_right _ (List.mem_append_right _ (List.mem_append_right _ (List.mem_append_left _ (List.mem_of_getElem? (i := 181) rfl))))) rfl
set_option maxRecDepth 100000 in
theorem kn_675 : Cond.methodLinkNest RX8 158 yX7_worthOf "NamesAgain" ∈ xn := xn_in (List.mem_append_right _ (List.mem_append_right _ (List.mem_append_right _ (List.mem_append_left _ (List.mem_of_getElem? (i := 195) rfl))))) rfl
set_option maxRecDepth 100000 in
theorem kn_684 : Cond.methodLinkNest RX8 162 yX7_isName "NamesAgain" ∈ xn := xn_in (List.mem_append_right _ (List.mem_append_right _ (List.mem_append_right _ (List.mem_append_left _ (List.mem_of_getElem? (i := 204) rfl))))) rfl
set_option maxRecDepth 100000 in
theorem kn_690 : Cond.methodLinkNest RX8 41 yX6_passSign "NamesAgain" ∈ xn := xn_in (List.mem_append_right _ (List.mem_append_right _ (List.mem_append_right _ (List.mem_append_left _ (List.mem_of_getElem? (i := 210) rfl))))) rfl
set_option maxRecDepth 100000 in
theorem kn_699 : Cond.methodLinkNest RX11 128 yX7_copyFrom "NamesAgain" ∈ xn := xn_in (List.mem_append_right _ (List.mem_append_right _ (List.mem_append_right _ (List.mem_append_left _ (List.mem_of_getElem? (i := 219) rfl))))) rfl
set_option maxRecDepth 100000 in
theorem kn_715 : Cond.methodLinkNest RX11 131 yX2_begin "NamesAgain" ∈ xn := xn_in (List.mem_append_right _ (List.mem_append_right _ (List.mem_append_right _ (List.mem_append_left _ (List.mem_of_getElem? (i := 235) rfl))))) rfl
set_option maxRecDepth 100000 in
theorem kn_731 : Cond.methodLinkNest RX11 134 yX9_forget "NamesAgain" ∈ xn := xn_in (List.mem_append_right _ (List.mem_append_right _ (List.mem_append_right _ (List.mem_append_right _ (List.mem_append_left _ (List.mem_of_getElem? (i := 11) rfl)))))) rfl
set_option maxRecDepth 100000 in
theorem kn_764 : Cond.methodLinkNest RX11 169 yX7_isSoul "NamesAgain" ∈ xn := xn_in (List.mem_append_right _ (List.mem_append_right _ (List.mem_append_right _ (List.mem_append_right _ (List.mem_append_left _ (List.mem_of_getElem? (i := 44) rfl)))))) rfl
set_option maxRecDepth 100000 in
theorem kn_827 : Cond.methodLinkNest RX11 237 yX9_keep "NamesAgain" ∈ xn := xn_in (List.mem_append_right _ (List.mem_append_right _ (List.mem_append_right _ (List.mem_append_right _ (List.mem_append_left _ (List.mem_of_getElem? (i := 107) rfl)))))) rfl
set_option maxRecDepth 100000 in
theorem kn_97 : Cond.fieldLinkNest RX11 111 RX6 "length" "I" "NamesAgain" ∈ xn := xn_in (List.mem_append_right _ (List.mem_append_left _ (List.mem_of_getElem? (i := 97) rfl))) rfl
set_option maxRecDepth 100000 in
theorem ks_1 : Cond.selects RX6 yX6_hasRoom yX6_hasRoom ∈ xg := xg_in (List.mem_append_left _ (List.mem_of_getElem? (i := 1) rfl)) rfl
set_option maxRecDepth 100000 in
theorem ks_10 : Cond.selects RX6 yX6_refuse yX6_refuse ∈ xg := xg_in (List.mem_append_left _ (List.mem_of_getElem? (i := 10) rfl)) rfl
set_option maxRecDepth 100000 in
theorem ks_100 : Cond.selects RX5 yX5_read yX5_read ∈ xg := xg_in (List.mem_append_left _ (List.mem_of_getElem? (i := 100) rfl)) rfl
set_option maxRecDepth 100000 in
theorem ks_107 : Cond.selects RX5 yX5_copyFrom yX5_copyFrom ∈ xg := xg_in (List.mem_append_left _ (List.mem_of_getElem? (i := 107) rfl)) rfl
set_option maxRecDepth 100000 in
theorem ks_11 : Cond.selects RX8 yX8_passNewWord yX8_passNewWord ∈ xg := xg_in (List.mem_append_left _ (List.mem_of_getElem? (i := 11) rfl)) rfl
set_option maxRecDepth 100000 in
theorem ks_112 : Cond.selects RX2 yX2_hasFled yX2_hasFled ∈ xg := xg_in (List.mem_append_left _ (List.mem_of_getElem? (i := 112) rfl)) rfl
set_option maxRecDepth 100000 in
theorem ks_12 : Cond.selects RX6 yX6_canBeNameOrSoul yX6_canBeNameOrSoul ∈ xg := xg_in (List.mem_append_left _ (List.mem_of_getElem? (i := 12) rfl)) rfl
set_option maxRecDepth 100000 in
theorem ks_13 : Cond.selects RX7 yX7_findName yX7_findName ∈ xg := xg_in (List.mem_append_left _ (List.mem_of_getElem? (i := 13) rfl)) rfl
set_option maxRecDepth 100000 in
theorem ks_14 : Cond.selects RX7 yX7_findSoul yX7_findSoul ∈ xg := xg_in (List.mem_append_left _ (List.mem_of_getElem? (i := 14) rfl)) rfl
set_option maxRecDepth 100000 in
theorem ks_15 : Cond.selects RX6 yX6_pass yX6_pass ∈ xg := xg_in (List.mem_append_left _ (List.mem_of_getElem? (i := 15) rfl)) rfl
set_option maxRecDepth 100000 in
theorem ks_16 : Cond.selects RX6 yX6_passNumber yX6_passNumber ∈ xg := xg_in (List.mem_append_left _ (List.mem_of_getElem? (i := 16) rfl)) rfl
set_option maxRecDepth 100000 in
theorem ks_17 : Cond.selects RX7 yX7_addName yX7_addName ∈ xg := xg_in (List.mem_append_left _ (List.mem_of_getElem? (i := 17) rfl)) rfl
set_option maxRecDepth 100000 in
theorem ks_18 : Cond.selects RX8 yX8_readOfName yX8_readOfName ∈ xg := xg_in (List.mem_append_left _ (List.mem_of_getElem? (i := 18) rfl)) rfl
set_option maxRecDepth 100000 in
theorem ks_19 : Cond.selects RX8 yX8_passOnce yX8_passOnce ∈ xg := xg_in (List.mem_append_left _ (List.mem_of_getElem? (i := 19) rfl)) rfl
set_option maxRecDepth 100000 in
theorem ks_2 : Cond.selects RX6 yX6_put yX6_put ∈ xg := xg_in (List.mem_append_left _ (List.mem_of_getElem? (i := 2) rfl)) rfl
set_option maxRecDepth 100000 in
theorem ks_20 : Cond.selects RX6 yX6_passKnown yX6_passKnown ∈ xg := xg_in (List.mem_append_left _ (List.mem_of_getElem? (i := 20) rfl)) rfl
set_option maxRecDepth 100000 in
theorem ks_21 : Cond.selects RX8 yX8_readSoulLine yX8_readSoulLine ∈ xg := xg_in (List.mem_append_left _ (List.mem_of_getElem? (i := 21) rfl)) rfl
set_option maxRecDepth 100000 in
theorem ks_22 : Cond.selects RX7 yX7_addSoul yX7_addSoul ∈ xg := xg_in (List.mem_append_left _ (List.mem_of_getElem? (i := 22) rfl)) rfl
set_option maxRecDepth 100000 in
theorem ks_23 : Cond.selects RX8 yX8_readFirstName yX8_readFirstName ∈ xg := xg_in (List.mem_append_left _ (List.mem_of_getElem? (i := 23) rfl)) rfl
set_option maxRecDepth 100000 in
theorem ks_24 : Cond.selects RX7 yX7_isBorneAtFirst yX7_isBorneAtFirst ∈ xg := xg_in (List.mem_append_left _ (List.mem_of_getElem? (i := 24) rfl)) rfl
set_option maxRecDepth 100000 in
theorem ks_25 : Cond.selects RX7 yX7_isSoul yX7_isSoul ∈ xg := xg_in (List.mem_append_left _ (List.mem_of_getElem? (i := 25) rfl)) rfl
set_option maxRecDepth 100000 in
theorem ks_26 : Cond.selects RX8 yX8_readWish yX8_readWish ∈ xg := xg_in (List.mem_append_left _ (List.mem_of_getElem? (i := 26) rfl)) rfl
set_option maxRecDepth 100000 in
theorem ks_27 : Cond.selects RX8 yX8_readWorth yX8_readWorth ∈ xg := xg_in (List.mem_append_left _ (List.mem_of_getElem? (i := 27) rfl)) rfl
set_option maxRecDepth 100000 in
theorem ks_28 : Cond.selects RX7 yX7_worthOf yX7_worthOf ∈ xg := xg_in (List.mem_append_left _ (List.mem_of_getElem? (i := 28) rfl)) rfl
set_option maxRecDepth 100000 in
theorem ks_29 : Cond.selects RX7 yX7_isName yX7_isName ∈ xg := xg_in (List.mem_append_left _ (List.mem_of_getElem? (i := 29) rfl)) rfl
set_option maxRecDepth 100000 in
theorem ks_3 : Cond.selects RX8 yX8_read yX8_read ∈ xg := xg_in (List.mem_append_left _ (List.mem_of_getElem? (i := 3) rfl)) rfl
set_option maxRecDepth 100000 in
theorem ks_30 : Cond.selects RX8 yX8_readOld yX8_readOld ∈ xg := xg_in (List.mem_append_left _ (List.mem_of_getElem? (i := 30) rfl)) rfl
set_option maxRecDepth 100000 in
theorem ks_31 : Cond.selects RX6 yX6_passSign yX6_passSign ∈ xg := xg_in (List.mem_append_left _ (List.mem_of_getElem? (i := 31) rfl)) rfl
set_option maxRecDepth 100000 in
theorem ks_32 : Cond.selects RX6 yX6_isSign yX6_isSign ∈ xg := xg_in (List.mem_append_left _ (List.mem_of_getElem? (i := 32) rfl)) rfl
set_option maxRecDepth 100000 in
theorem ks_33 : Cond.selects RX7 yX7_copyFrom yX7_copyFrom ∈ xg := xg_in (List.mem_append_left _ (List.mem_of_getElem? (i := 33) rfl)) rfl
set_option maxRecDepth 100000 in
theorem ks_34 : Cond.selects RX2 yX2_begin yX2_begin ∈ xg := xg_in (List.mem_append_left _ (List.mem_of_getElem? (i := 34) rfl)) rfl
set_option maxRecDepth 100000 in
theorem ks_37 : Cond.selects RX9 yX9_forget yX9_forget ∈ xg := xg_in (List.mem_append_left _ (List.mem_of_getElem? (i := 37) rfl)) rfl
set_option maxRecDepth 100000 in
theorem ks_4 : Cond.selects RX7 yX7_clear yX7_clear ∈ xg := xg_in (List.mem_append_left _ (List.mem_of_getElem? (i := 4) rfl)) rfl
set_option maxRecDepth 100000 in
theorem ks_45 : Cond.selects RX2 yX2_isAlive yX2_isAlive ∈ xg := xg_in (List.mem_append_left _ (List.mem_of_getElem? (i := 45) rfl)) rfl
set_option maxRecDepth 100000 in
theorem ks_46 : Cond.selects RX2 yX2_waitAhead yX2_waitAhead ∈ xg := xg_in (List.mem_append_left _ (List.mem_of_getElem? (i := 46) rfl)) rfl
set_option maxRecDepth 100000 in
theorem ks_48 : Cond.selects RX2 yX2_hasChanged yX2_hasChanged ∈ xg := xg_in (List.mem_append_left _ (List.mem_of_getElem? (i := 48) rfl)) rfl
set_option maxRecDepth 100000 in
theorem ks_5 : Cond.selects RX6 yX6_startText yX6_startText ∈ xg := xg_in (List.mem_append_left _ (List.mem_of_getElem? (i := 5) rfl)) rfl
set_option maxRecDepth 100000 in
theorem ks_53 : Cond.selects RX9 yX9_keep yX9_keep ∈ xg := xg_in (List.mem_append_left _ (List.mem_of_getElem? (i := 53) rfl)) rfl
set_option maxRecDepth 100000 in
theorem ks_54 : Cond.selects RX2 yX2_copyFrom yX2_copyFrom ∈ xg := xg_in (List.mem_append_left _ (List.mem_of_getElem? (i := 54) rfl)) rfl
set_option maxRecDepth 100000 in
theorem ks_6 : Cond.selects RX6 yX6_advance yX6_advance ∈ xg := xg_in (List.mem_append_left _ (List.mem_of_getElem? (i := 6) rfl)) rfl
set_option maxRecDepth 100000 in
theorem ks_7 : Cond.selects RX8 yX8_readLine yX8_readLine ∈ xg := xg_in (List.mem_append_left _ (List.mem_of_getElem? (i := 7) rfl)) rfl
set_option maxRecDepth 100000 in
theorem ks_8 : Cond.selects RX6 yX6_isWord yX6_isWord ∈ xg := xg_in (List.mem_append_left _ (List.mem_of_getElem? (i := 8) rfl)) rfl
set_option maxRecDepth 100000 in
theorem ks_84 : Cond.selects RX11 yX11_isLedger yX11_isLedger ∈ xg := xg_in (List.mem_append_left _ (List.mem_of_getElem? (i := 84) rfl)) rfl
set_option maxRecDepth 100000 in
theorem ks_86 : Cond.selects RX11 yX11_soulsInLedger yX11_soulsInLedger ∈ xg := xg_in (List.mem_append_left _ (List.mem_of_getElem? (i := 86) rfl)) rfl
set_option maxRecDepth 100000 in
theorem ks_9 : Cond.selects RX8 yX8_readNameLine yX8_readNameLine ∈ xg := xg_in (List.mem_append_left _ (List.mem_of_getElem? (i := 9) rfl)) rfl
set_option maxRecDepth 100000 in
theorem ks_95 : Cond.selects RX4 yX4_read yX4_read ∈ xg := xg_in (List.mem_append_left _ (List.mem_of_getElem? (i := 95) rfl)) rfl
set_option maxRecDepth 100000 in
theorem ks_97 : Cond.selects RX4 yX4_setSort yX4_setSort ∈ xg := xg_in (List.mem_append_left _ (List.mem_of_getElem? (i := 97) rfl)) rfl
set_option maxRecDepth 100000 in
theorem ks_99 : Cond.selects RX4 yX4_judge yX4_judge ∈ xg := xg_in (List.mem_append_left _ (List.mem_of_getElem? (i := 99) rfl)) rfl
set_option maxRecDepth 100000 in
theorem kw_1 : Cond.initialized RX11 ∈ xg := xg_in (List.mem_append_right _ (List.mem_append_left _ (List.mem_of_getElem? (i := 1) rfl))) rfl
set_option maxRecDepth 100000 in
theorem kw_10 : Cond.initialized RX9 ∈ xg := xg_in (List.mem_append_right _ (List.mem_append_left _ (List.mem_of_getElem? (i := 10) rfl))) rfl
set_option maxRecDepth 100000 in
theorem kw_100 : Cond.fieldLink RX6 48 RX6 "at" "I" ∈ xg := xg_in (List.mem_append_right _ (List.mem_append_left _ (List.mem_of_getElem? (i := 100) rfl))) rfl
set_option maxRecDepth 100000 in
theorem kw_104 : Cond.fieldLink RX6 60 RX6 "kind" "I" ∈ xg := xg_in (List.mem_append_right _ (List.mem_append_left _ (List.mem_of_getElem? (i := 104) rfl))) rfl
set_option maxRecDepth 100000 in
theorem kw_1043 : Cond.methodLink RX11 293 yX11_isLedger ∈ xg := xg_in (List.mem_append_right _ (List.mem_append_right _ (List.mem_append_right _ (List.mem_append_right _ (List.mem_append_right _ (List.mem_append_left _ (List.mem_of_getElem? (i := 83) rfl))))))) rfl
set_option maxRecDepth 100000 in
theorem kw_1045 : Cond.instanceMethod yX11_isLedger ∈ xg := xg_in (List.mem_append_right _ (List.mem_append_right _ (List.mem_append_right _ (List.mem_append_right _ (List.mem_append_right _ (List.mem_append_left _ (List.mem_of_getElem? (i := 85) rfl))))))) rfl
set_option maxRecDepth 100000 in
theorem kw_1046 : Cond.code yX11_isLedger cX11_isLedger 4 (some .boolean) ∈ xg := xg_in (List.mem_append_right _ (List.mem_append_right _ (List.mem_append_right _ (List.mem_append_right _ (List.mem_append_right _ (List.mem_append_left _ (List.mem_of_getElem? (i := 86) rfl))))))) rfl
set_option maxRecDepth 100000 in
theorem kw_105 : Cond.fieldLink RX6 63 RX6 "place" "I" ∈ xg := xg_in (List.mem_append_right _ (List.mem_append_left _ (List.mem_of_getElem? (i := 105) rfl))) rfl
set_option maxRecDepth 100000 in
theorem kw_1051 : Cond.methodLink RX11 296 yX11_soulsInLedger ∈ xg := xg_in (List.mem_append_right _ (List.mem_append_right _ (List.mem_append_right _ (List.mem_append_right _ (List.mem_append_right _ (List.mem_append_left _ (List.mem_of_getElem? (i := 91) rfl))))))) rfl
set_option maxRecDepth 100000 in
theorem kw_1053 : Cond.instanceMethod yX11_soulsInLedger ∈ xg := xg_in (List.mem_append_right _ (List.mem_append_right _ (List.mem_append_right _ (List.mem_append_right _ (List.mem_append_right _ (List.mem_append_left _ (List.mem_of_getElem? (i := 93) rfl))))))) rfl
set_option maxRecDepth 100000 in
theorem kw_1054 : Cond.code yX11_soulsInLedger cX11_soulsInLedger 7 (some .int) ∈ xg := xg_in (List.mem_append_right _ (List.mem_append_right _ (List.mem_append_right _ (List.mem_append_right _ (List.mem_append_right _ (List.mem_append_left _ (List.mem_of_getElem? (i := 94) rfl))))))) rfl
set_option maxRecDepth 100000 in
theorem kw_108 : Cond.fieldLink RX6 69 RX6 "word" "J" ∈ xg := xg_in (List.mem_append_right _ (List.mem_append_left _ (List.mem_of_getElem? (i := 108) rfl))) rfl
set_option maxRecDepth 100000 in
theorem kw_11 : Cond.initialized RX4 ∈ xg := xg_in (List.mem_append_right _ (List.mem_append_left _ (List.mem_of_getElem? (i := 11) rfl))) rfl
set_option maxRecDepth 100000 in
theorem kw_110 : Cond.fieldLink RX6 73 RX6 "number" "I" ∈ xg := xg_in (List.mem_append_right _ (List.mem_append_left _ (List.mem_of_getElem? (i := 110) rfl))) rfl
set_option maxRecDepth 100000 in
theorem kw_111 : Cond.fieldLink RX6 66 RX6 "sign" "I" ∈ xg := xg_in (List.mem_append_right _ (List.mem_append_left _ (List.mem_of_getElem? (i := 111) rfl))) rfl
set_option maxRecDepth 100000 in
theorem kw_1139 : Cond.instanceMethod yX4_read ∈ xg := xg_in (List.mem_append_right _ (List.mem_append_right _ (List.mem_append_right _ (List.mem_append_right _ (List.mem_append_right _ (List.mem_append_left _ (List.mem_of_getElem? (i := 179) rfl))))))) rfl
set_option maxRecDepth 100000 in
theorem kw_1140 : Cond.code yX4_read cX4_read 2 (some .boolean) ∈ xg := xg_in (List.mem_append_right _ (List.mem_append_right _ (List.mem_append_right _ (List.mem_append_right _ (List.mem_append_right _ (List.mem_append_left _ (List.mem_of_getElem? (i := 180) rfl))))))) rfl
set_option maxRecDepth 100000 in
theorem kw_1152 : Cond.methodLink RX4 79 yX4_setSort ∈ xg := xg_in (List.mem_append_right _ (List.mem_append_right _ (List.mem_append_right _ (List.mem_append_right _ (List.mem_append_right _ (List.mem_append_left _ (List.mem_of_getElem? (i := 192) rfl))))))) rfl
set_option maxRecDepth 100000 in
theorem kw_1154 : Cond.instanceMethod yX4_setSort ∈ xg := xg_in (List.mem_append_right _ (List.mem_append_right _ (List.mem_append_right _ (List.mem_append_right _ (List.mem_append_right _ (List.mem_append_left _ (List.mem_of_getElem? (i := 194) rfl))))))) rfl
set_option maxRecDepth 100000 in
theorem kw_1155 : Cond.code yX4_setSort cX4_setSort 2 (some .boolean) ∈ xg := xg_in (List.mem_append_right _ (List.mem_append_right _ (List.mem_append_right _ (List.mem_append_right _ (List.mem_append_right _ (List.mem_append_left _ (List.mem_of_getElem? (i := 195) rfl))))))) rfl
set_option maxRecDepth 100000 in
theorem kw_116 : Cond.fieldLink RX6 88 RX6 "got" "I" ∈ xg := xg_in (List.mem_append_right _ (List.mem_append_left _ (List.mem_of_getElem? (i := 116) rfl))) rfl
set_option maxRecDepth 100000 in
theorem kw_1173 : Cond.instanceMethod yX4_judge ∈ xg := xg_in (List.mem_append_right _ (List.mem_append_right _ (List.mem_append_right _ (List.mem_append_right _ (List.mem_append_right _ (List.mem_append_left _ (List.mem_of_getElem? (i := 213) rfl))))))) rfl
set_option maxRecDepth 100000 in
theorem kw_1174 : Cond.code yX4_judge cX4_judge 4 (some .int) ∈ xg := xg_in (List.mem_append_right _ (List.mem_append_right _ (List.mem_append_right _ (List.mem_append_right _ (List.mem_append_right _ (List.mem_append_left _ (List.mem_of_getElem? (i := 214) rfl))))))) rfl
set_option maxRecDepth 100000 in
theorem kw_118 : Cond.fieldLink RX6 51 RX6 "faultKind" "I" ∈ xg := xg_in (List.mem_append_right _ (List.mem_append_left _ (List.mem_of_getElem? (i := 118) rfl))) rfl
set_option maxRecDepth 100000 in
theorem kw_1187 : Cond.instanceMethod yX5_read ∈ xg := xg_in (List.mem_append_right _ (List.mem_append_right _ (List.mem_append_right _ (List.mem_append_right _ (List.mem_append_right _ (List.mem_append_left _ (List.mem_of_getElem? (i := 227) rfl))))))) rfl
set_option maxRecDepth 100000 in
theorem kw_1188 : Cond.code yX5_read cX5_read 1 (some .boolean) ∈ xg := xg_in (List.mem_append_right _ (List.mem_append_right _ (List.mem_append_right _ (List.mem_append_right _ (List.mem_append_right _ (List.mem_append_left _ (List.mem_of_getElem? (i := 228) rfl))))))) rfl
set_option maxRecDepth 100000 in
theorem kw_12 : Cond.initialized RX5 ∈ xg := xg_in (List.mem_append_right _ (List.mem_append_left _ (List.mem_of_getElem? (i := 12) rfl))) rfl
set_option maxRecDepth 100000 in
theorem kw_120 : Cond.fieldLink RX6 54 RX6 "faultPlace" "I" ∈ xg := xg_in (List.mem_append_right _ (List.mem_append_left _ (List.mem_of_getElem? (i := 120) rfl))) rfl
set_option maxRecDepth 100000 in
theorem kw_1236 : Cond.instanceMethod yX5_copyFrom ∈ xg := xg_in (List.mem_append_right _ (List.mem_append_right _ (List.mem_append_right _ (List.mem_append_right _ (List.mem_append_right _ (List.mem_append_right _ (List.mem_append_left _ (List.mem_of_getElem? (i := 36) rfl)))))))) rfl
set_option maxRecDepth 100000 in
theorem kw_1237 : Cond.code yX5_copyFrom cX5_copyFrom 2 none ∈ xg := xg_in (List.mem_append_right _ (List.mem_append_right _ (List.mem_append_right _ (List.mem_append_right _ (List.mem_append_right _ (List.mem_append_right _ (List.mem_append_left _ (List.mem_of_getElem? (i := 37) rfl)))))))) rfl
set_option maxRecDepth 100000 in
theorem kw_1267 : Cond.instanceMethod yX2_hasFled ∈ xg := xg_in (List.mem_append_right _ (List.mem_append_right _ (List.mem_append_right _ (List.mem_append_right _ (List.mem_append_right _ (List.mem_append_right _ (List.mem_append_left _ (List.mem_of_getElem? (i := 67) rfl)))))))) rfl
set_option maxRecDepth 100000 in
theorem kw_1268 : Cond.code yX2_hasFled cX2_hasFled 2 (some .boolean) ∈ xg := xg_in (List.mem_append_right _ (List.mem_append_right _ (List.mem_append_right _ (List.mem_append_right _ (List.mem_append_right _ (List.mem_append_right _ (List.mem_append_left _ (List.mem_of_getElem? (i := 68) rfl)))))))) rfl
set_option maxRecDepth 100000 in
theorem kw_13 : Cond.initialized RX10 ∈ xg := xg_in (List.mem_append_right _ (List.mem_append_left _ (List.mem_of_getElem? (i := 13) rfl))) rfl
set_option maxRecDepth 100000 in
theorem kw_14 : Cond.initialized RX3 ∈ xg := xg_in (List.mem_append_right _ (List.mem_append_left _ (List.mem_of_getElem? (i := 14) rfl))) rfl
set_option maxRecDepth 100000 in
theorem kw_15 : Cond.initialized RX0 ∈ xg := xg_in (List.mem_append_right _ (List.mem_append_left _ (List.mem_of_getElem? (i := 15) rfl))) rfl
set_option maxRecDepth 100000 in
theorem kw_158 : Cond.fieldLink RX7 43 RX7 "names" "I" ∈ xg := xg_in (List.mem_append_right _ (List.mem_append_left _ (List.mem_of_getElem? (i := 158) rfl))) rfl
set_option maxRecDepth 100000 in
theorem kw_163 : Cond.fieldLink RX7 47 RX7 "souls" "I" ∈ xg := xg_in (List.mem_append_right _ (List.mem_append_left _ (List.mem_of_getElem? (i := 163) rfl))) rfl
set_option maxRecDepth 100000 in
theorem kw_169 : Cond.fieldLink RX7 9 RX7 "nameWord" "[J" ∈ xg := xg_in (List.mem_append_right _ (List.mem_append_left _ (List.mem_of_getElem? (i := 169) rfl))) rfl
set_option maxRecDepth 100000 in
theorem kw_170 : Cond.fieldLink RX7 15 RX7 "price" "[I" ∈ xg := xg_in (List.mem_append_right _ (List.mem_append_left _ (List.mem_of_getElem? (i := 170) rfl))) rfl
set_option maxRecDepth 100000 in
theorem kw_174 : Cond.fieldLink RX7 19 RX7 "firstDebt" "[I" ∈ xg := xg_in (List.mem_append_right _ (List.mem_append_left _ (List.mem_of_getElem? (i := 174) rfl))) rfl
set_option maxRecDepth 100000 in
theorem kw_177 : Cond.fieldLink RX7 22 RX7 "every" "[I" ∈ xg := xg_in (List.mem_append_right _ (List.mem_append_left _ (List.mem_of_getElem? (i := 177) rfl))) rfl
set_option maxRecDepth 100000 in
theorem kw_180 : Cond.fieldLink RX7 25 RX7 "soulWord" "[J" ∈ xg := xg_in (List.mem_append_right _ (List.mem_append_left _ (List.mem_of_getElem? (i := 180) rfl))) rfl
set_option maxRecDepth 100000 in
theorem kw_181 : Cond.fieldLink RX7 28 RX7 "firstPurse" "[I" ∈ xg := xg_in (List.mem_append_right _ (List.mem_append_left _ (List.mem_of_getElem? (i := 181) rfl))) rfl
set_option maxRecDepth 100000 in
theorem kw_183 : Cond.fieldLink RX7 31 RX7 "firstName" "[I" ∈ xg := xg_in (List.mem_append_right _ (List.mem_append_left _ (List.mem_of_getElem? (i := 183) rfl))) rfl
set_option maxRecDepth 100000 in
theorem kw_186 : Cond.fieldLink RX7 34 RX7 "wish" "[I" ∈ xg := xg_in (List.mem_append_right _ (List.mem_append_left _ (List.mem_of_getElem? (i := 186) rfl))) rfl
set_option maxRecDepth 100000 in
theorem kw_191 : Cond.fieldLink RX7 37 RX7 "old" "[I" ∈ xg := xg_in (List.mem_append_right _ (List.mem_append_left _ (List.mem_of_getElem? (i := 191) rfl))) rfl
set_option maxRecDepth 100000 in
theorem kw_194 : Cond.fieldLink RX7 40 RX7 "worthRow" "[I" ∈ xg := xg_in (List.mem_append_right _ (List.mem_append_left _ (List.mem_of_getElem? (i := 194) rfl))) rfl
set_option maxRecDepth 100000 in
theorem kw_2 : Cond.initialized RX6 ∈ xg := xg_in (List.mem_append_right _ (List.mem_append_left _ (List.mem_of_getElem? (i := 2) rfl))) rfl
set_option maxRecDepth 100000 in
theorem kw_2030 : Cond.fieldLink RJ0 9 RJ0 "value" "[B" ∈ xg := xg_in (List.mem_append_right _ (List.mem_append_right _ (List.mem_append_right _ (List.mem_append_right _ (List.mem_append_right _ (List.mem_append_right _ (List.mem_append_right _ (List.mem_append_right _ (List.mem_append_right _ (List.mem_of_getElem? (i := 110) rfl)))))))))) rfl
set_option maxRecDepth 100000 in
theorem kw_2031 : Cond.fieldLink RJ0 15 RJ0 "coder" "B" ∈ xg := xg_in (List.mem_append_right _ (List.mem_append_right _ (List.mem_append_right _ (List.mem_append_right _ (List.mem_append_right _ (List.mem_append_right _ (List.mem_append_right _ (List.mem_append_right _ (List.mem_append_right _ (List.mem_of_getElem? (i := 111) rfl)))))))))) rfl
set_option maxRecDepth 100000 in
theorem kw_228 : Cond.fieldLink RX8 9 RX8 "tape" "LNamesAgain$Tape;" ∈ xg := xg_in (List.mem_append_right _ (List.mem_append_left _ (List.mem_of_getElem? (i := 228) rfl))) rfl
set_option maxRecDepth 100000 in
theorem kw_229 : Cond.fieldLink RX8 15 RX8 "draft" "LNamesAgain$Told;" ∈ xg := xg_in (List.mem_append_right _ (List.mem_append_left _ (List.mem_of_getElem? (i := 229) rfl))) rfl
set_option maxRecDepth 100000 in
theorem kw_230 : Cond.fieldLink RX8 30 RX8 "lineCount" "I" ∈ xg := xg_in (List.mem_append_right _ (List.mem_append_left _ (List.mem_of_getElem? (i := 230) rfl))) rfl
set_option maxRecDepth 100000 in
theorem kw_245 : Cond.fieldLink RX2 37 RX2 "told" "LNamesAgain$Told;" ∈ xg := xg_in (List.mem_append_right _ (List.mem_append_right _ (List.mem_append_left _ (List.mem_of_getElem? (i := 5) rfl)))) rfl
set_option maxRecDepth 100000 in
theorem kw_260 : Cond.fieldLink RX2 9 RX2 "bearer" "[I" ∈ xg := xg_in (List.mem_append_right _ (List.mem_append_right _ (List.mem_append_left _ (List.mem_of_getElem? (i := 20) rfl)))) rfl
set_option maxRecDepth 100000 in
theorem kw_264 : Cond.fieldLink RX2 15 RX2 "debt" "[I" ∈ xg := xg_in (List.mem_append_right _ (List.mem_append_right _ (List.mem_append_left _ (List.mem_of_getElem? (i := 24) rfl)))) rfl
set_option maxRecDepth 100000 in
theorem kw_266 : Cond.fieldLink RX2 18 RX2 "hangedTill" "[I" ∈ xg := xg_in (List.mem_append_right _ (List.mem_append_right _ (List.mem_append_left _ (List.mem_of_getElem? (i := 26) rfl)))) rfl
set_option maxRecDepth 100000 in
theorem kw_267 : Cond.fieldLink RX2 21 RX2 "nameOf" "[I" ∈ xg := xg_in (List.mem_append_right _ (List.mem_append_right _ (List.mem_append_left _ (List.mem_of_getElem? (i := 27) rfl)))) rfl
set_option maxRecDepth 100000 in
theorem kw_271 : Cond.fieldLink RX2 24 RX2 "purse" "[I" ∈ xg := xg_in (List.mem_append_right _ (List.mem_append_right _ (List.mem_append_left _ (List.mem_of_getElem? (i := 31) rfl)))) rfl
set_option maxRecDepth 100000 in
theorem kw_275 : Cond.fieldLink RX2 27 RX2 "feasted" "[I" ∈ xg := xg_in (List.mem_append_right _ (List.mem_append_right _ (List.mem_append_left _ (List.mem_of_getElem? (i := 35) rfl)))) rfl
set_option maxRecDepth 100000 in
theorem kw_278 : Cond.fieldLink RX2 30 RX2 "waiting" "[I" ∈ xg := xg_in (List.mem_append_right _ (List.mem_append_right _ (List.mem_append_left _ (List.mem_of_getElem? (i := 38) rfl)))) rfl
set_option maxRecDepth 100000 in
theorem kw_281 : Cond.fieldLink RX2 33 RX2 "past" "[J" ∈ xg := xg_in (List.mem_append_right _ (List.mem_append_right _ (List.mem_append_left _ (List.mem_of_getElem? (i := 41) rfl)))) rfl
set_option maxRecDepth 100000 in
theorem kw_3 : Cond.initialized RJ0 ∈ xg := xg_in (List.mem_append_right _ (List.mem_append_left _ (List.mem_of_getElem? (i := 3) rfl))) rfl
set_option maxRecDepth 100000 in
theorem kw_322 : Cond.fieldLink RX9 11 RX9 "kept" "[LNamesAgain$Life;" ∈ xg := xg_in (List.mem_append_right _ (List.mem_append_right _ (List.mem_append_left _ (List.mem_of_getElem? (i := 82) rfl)))) rfl
set_option maxRecDepth 100000 in
theorem kw_339 : Cond.fieldLink RX4 21 RX4 "tape" "LNamesAgain$Tape;" ∈ xg := xg_in (List.mem_append_right _ (List.mem_append_right _ (List.mem_append_left _ (List.mem_of_getElem? (i := 99) rfl)))) rfl
set_option maxRecDepth 100000 in
theorem kw_340 : Cond.fieldLink RX4 25 RX4 "told" "LNamesAgain$Told;" ∈ xg := xg_in (List.mem_append_right _ (List.mem_append_right _ (List.mem_append_left _ (List.mem_of_getElem? (i := 100) rfl)))) rfl
set_option maxRecDepth 100000 in
theorem kw_341 : Cond.fieldLink RX4 11 RX4 "sort" "[I" ∈ xg := xg_in (List.mem_append_right _ (List.mem_append_right _ (List.mem_append_left _ (List.mem_of_getElem? (i := 101) rfl)))) rfl
set_option maxRecDepth 100000 in
theorem kw_342 : Cond.fieldLink RX4 15 RX4 "who" "[I" ∈ xg := xg_in (List.mem_append_right _ (List.mem_append_right _ (List.mem_append_left _ (List.mem_of_getElem? (i := 102) rfl)))) rfl
set_option maxRecDepth 100000 in
theorem kw_343 : Cond.fieldLink RX4 18 RX4 "whom" "[I" ∈ xg := xg_in (List.mem_append_right _ (List.mem_append_right _ (List.mem_append_left _ (List.mem_of_getElem? (i := 103) rfl)))) rfl
set_option maxRecDepth 100000 in
theorem kw_384 : Cond.fieldLink RX5 24 RX5 "tape" "LNamesAgain$Tape;" ∈ xg := xg_in (List.mem_append_right _ (List.mem_append_right _ (List.mem_append_left _ (List.mem_of_getElem? (i := 144) rfl)))) rfl
set_option maxRecDepth 100000 in
theorem kw_385 : Cond.fieldLink RX5 28 RX5 "told" "LNamesAgain$Told;" ∈ xg := xg_in (List.mem_append_right _ (List.mem_append_right _ (List.mem_append_left _ (List.mem_of_getElem? (i := 145) rfl)))) rfl
set_option maxRecDepth 100000 in
theorem kw_386 : Cond.fieldLink RX5 11 RX5 "step" "[I" ∈ xg := xg_in (List.mem_append_right _ (List.mem_append_right _ (List.mem_append_left _ (List.mem_of_getElem? (i := 146) rfl)))) rfl
set_option maxRecDepth 100000 in
theorem kw_387 : Cond.fieldLink RX5 15 RX5 "sign" "[I" ∈ xg := xg_in (List.mem_append_right _ (List.mem_append_right _ (List.mem_append_left _ (List.mem_of_getElem? (i := 147) rfl)))) rfl
set_option maxRecDepth 100000 in
theorem kw_388 : Cond.fieldLink RX5 18 RX5 "value" "[I" ∈ xg := xg_in (List.mem_append_right _ (List.mem_append_right _ (List.mem_append_left _ (List.mem_of_getElem? (i := 148) rfl)))) rfl
set_option maxRecDepth 100000 in
theorem kw_389 : Cond.fieldLink RX5 21 RX5 "sets" "[I" ∈ xg := xg_in (List.mem_append_right _ (List.mem_append_right _ (List.mem_append_left _ (List.mem_of_getElem? (i := 149) rfl)))) rfl
set_option maxRecDepth 100000 in
theorem kw_390 : Cond.fieldLink RX5 32 RX5 "steps" "I" ∈ xg := xg_in (List.mem_append_right _ (List.mem_append_right _ (List.mem_append_left _ (List.mem_of_getElem? (i := 150) rfl)))) rfl
set_option maxRecDepth 100000 in
theorem kw_4 : Cond.initialized RJ1 ∈ xg := xg_in (List.mem_append_right _ (List.mem_append_left _ (List.mem_of_getElem? (i := 4) rfl))) rfl
set_option maxRecDepth 100000 in
theorem kw_416 : Cond.fieldLink RX10 18 RX10 "told" "LNamesAgain$Told;" ∈ xg := xg_in (List.mem_append_right _ (List.mem_append_right _ (List.mem_append_left _ (List.mem_of_getElem? (i := 176) rfl)))) rfl
set_option maxRecDepth 100000 in
theorem kw_417 : Cond.fieldLink RX10 22 RX10 "life" "LNamesAgain$Life;" ∈ xg := xg_in (List.mem_append_right _ (List.mem_append_right _ (List.mem_append_left _ (List.mem_of_getElem? (i := 177) rfl)))) rfl
set_option maxRecDepth 100000 in
theorem kw_418 : Cond.fieldLink RX10 9 RX10 "pointsAt" "[I" ∈ xg := xg_in (List.mem_append_right _ (List.mem_append_right _ (List.mem_append_left _ (List.mem_of_getElem? (i := 178) rfl)))) rfl
set_option maxRecDepth 100000 in
theorem kw_419 : Cond.fieldLink RX10 15 RX10 "partners" "[I" ∈ xg := xg_in (List.mem_append_right _ (List.mem_append_right _ (List.mem_append_left _ (List.mem_of_getElem? (i := 179) rfl)))) rfl
set_option maxRecDepth 100000 in
theorem kw_438 : Cond.fieldLink RX3 15 RX3 "told" "LNamesAgain$Told;" ∈ xg := xg_in (List.mem_append_right _ (List.mem_append_right _ (List.mem_append_left _ (List.mem_of_getElem? (i := 198) rfl)))) rfl
set_option maxRecDepth 100000 in
theorem kw_439 : Cond.fieldLink RX3 19 RX3 "life" "LNamesAgain$Life;" ∈ xg := xg_in (List.mem_append_right _ (List.mem_append_right _ (List.mem_append_left _ (List.mem_of_getElem? (i := 199) rfl)))) rfl
set_option maxRecDepth 100000 in
theorem kw_44 : Cond.methodLink RX6 29 yJ0_length_8abf5 ∈ xg := xg_in (List.mem_append_right _ (List.mem_append_left _ (List.mem_of_getElem? (i := 44) rfl))) rfl
set_option maxRecDepth 100000 in
theorem kw_443 : Cond.fieldLink RX3 9 RX3 "cheapestName" "I" ∈ xg := xg_in (List.mem_append_right _ (List.mem_append_right _ (List.mem_append_left _ (List.mem_of_getElem? (i := 203) rfl)))) rfl
set_option maxRecDepth 100000 in
theorem kw_45 : Cond.instanceMethod yJ0_length_8abf5 ∈ xg := xg_in (List.mem_append_right _ (List.mem_append_left _ (List.mem_of_getElem? (i := 45) rfl))) rfl
set_option maxRecDepth 100000 in
theorem kw_46 : Cond.selects RJ0 yJ0_length_8abf5 yJ0_length_8abf5 ∈ xg := xg_in (List.mem_append_right _ (List.mem_append_left _ (List.mem_of_getElem? (i := 46) rfl))) rfl
set_option maxRecDepth 100000 in
theorem kw_47 : Cond.code yJ0_length_8abf5 cJ0_length_8abf5 1 (some .int) ∈ xg := xg_in (List.mem_append_right _ (List.mem_append_left _ (List.mem_of_getElem? (i := 47) rfl))) rfl
set_option maxRecDepth 100000 in
theorem kw_48 : Cond.methodLink RJ0 335 yJ0_coder_7d493 ∈ xg := xg_in (List.mem_append_right _ (List.mem_append_left _ (List.mem_of_getElem? (i := 48) rfl))) rfl
set_option maxRecDepth 100000 in
theorem kw_49 : Cond.instanceMethod yJ0_coder_7d493 ∈ xg := xg_in (List.mem_append_right _ (List.mem_append_left _ (List.mem_of_getElem? (i := 49) rfl))) rfl
set_option maxRecDepth 100000 in
theorem kw_496 : Cond.fieldLink RX11 10 RX11 "tape" "LNamesAgain$Tape;" ∈ xg := xg_in (List.mem_append_right _ (List.mem_append_right _ (List.mem_append_right _ (List.mem_append_left _ (List.mem_of_getElem? (i := 16) rfl))))) rfl
set_option maxRecDepth 100000 in
theorem kw_497 : Cond.fieldLink RX11 19 RX11 "told" "LNamesAgain$Told;" ∈ xg := xg_in (List.mem_append_right _ (List.mem_append_right _ (List.mem_append_right _ (List.mem_append_left _ (List.mem_of_getElem? (i := 17) rfl))))) rfl
set_option maxRecDepth 100000 in
theorem kw_498 : Cond.fieldLink RX11 23 RX11 "draft" "LNamesAgain$Told;" ∈ xg := xg_in (List.mem_append_right _ (List.mem_append_right _ (List.mem_append_right _ (List.mem_append_left _ (List.mem_of_getElem? (i := 18) rfl))))) rfl
set_option maxRecDepth 100000 in
theorem kw_499 : Cond.fieldLink RX11 31 RX11 "townReader" "LNamesAgain$TownReader;" ∈ xg := xg_in (List.mem_append_right _ (List.mem_append_right _ (List.mem_append_right _ (List.mem_append_left _ (List.mem_of_getElem? (i := 19) rfl))))) rfl
set_option maxRecDepth 100000 in
theorem kw_5 : Cond.initialized RJ3 ∈ xg := xg_in (List.mem_append_right _ (List.mem_append_left _ (List.mem_of_getElem? (i := 5) rfl))) rfl
set_option maxRecDepth 100000 in
theorem kw_50 : Cond.selects RJ0 yJ0_coder_7d493 yJ0_coder_7d493 ∈ xg := xg_in (List.mem_append_right _ (List.mem_append_left _ (List.mem_of_getElem? (i := 50) rfl))) rfl
set_option maxRecDepth 100000 in
theorem kw_500 : Cond.fieldLink RX11 40 RX11 "life" "LNamesAgain$Life;" ∈ xg := xg_in (List.mem_append_right _ (List.mem_append_right _ (List.mem_append_right _ (List.mem_append_left _ (List.mem_of_getElem? (i := 20) rfl))))) rfl
set_option maxRecDepth 100000 in
theorem kw_501 : Cond.fieldLink RX11 44 RX11 "spare" "LNamesAgain$Life;" ∈ xg := xg_in (List.mem_append_right _ (List.mem_append_right _ (List.mem_append_right _ (List.mem_append_left _ (List.mem_of_getElem? (i := 21) rfl))))) rfl
set_option maxRecDepth 100000 in
theorem kw_502 : Cond.fieldLink RX11 50 RX11 "undos" "LNamesAgain$Undo;" ∈ xg := xg_in (List.mem_append_right _ (List.mem_append_right _ (List.mem_append_right _ (List.mem_append_left _ (List.mem_of_getElem? (i := 22) rfl))))) rfl
set_option maxRecDepth 100000 in
theorem kw_503 : Cond.fieldLink RX11 57 RX11 "lines" "LNamesAgain$Roll;" ∈ xg := xg_in (List.mem_append_right _ (List.mem_append_right _ (List.mem_append_right _ (List.mem_append_left _ (List.mem_of_getElem? (i := 23) rfl))))) rfl
set_option maxRecDepth 100000 in
theorem kw_504 : Cond.fieldLink RX11 64 RX11 "saying" "LNamesAgain$Sentence;" ∈ xg := xg_in (List.mem_append_right _ (List.mem_append_right _ (List.mem_append_right _ (List.mem_append_left _ (List.mem_of_getElem? (i := 24) rfl))))) rfl
set_option maxRecDepth 100000 in
theorem kw_505 : Cond.fieldLink RX11 68 RX11 "newSaying" "LNamesAgain$Sentence;" ∈ xg := xg_in (List.mem_append_right _ (List.mem_append_right _ (List.mem_append_right _ (List.mem_append_left _ (List.mem_of_getElem? (i := 25) rfl))))) rfl
set_option maxRecDepth 100000 in
theorem kw_506 : Cond.fieldLink RX11 76 RX11 "wishing" "LNamesAgain$Wishes;" ∈ xg := xg_in (List.mem_append_right _ (List.mem_append_right _ (List.mem_append_right _ (List.mem_append_left _ (List.mem_of_getElem? (i := 26) rfl))))) rfl
set_option maxRecDepth 100000 in
theorem kw_507 : Cond.fieldLink RX11 83 RX11 "market" "LNamesAgain$Market;" ∈ xg := xg_in (List.mem_append_right _ (List.mem_append_right _ (List.mem_append_right _ (List.mem_append_left _ (List.mem_of_getElem? (i := 27) rfl))))) rfl
set_option maxRecDepth 100000 in
theorem kw_508 : Cond.fieldLink RX11 90 RX11 "draw" "LNamesAgain$Draw;" ∈ xg := xg_in (List.mem_append_right _ (List.mem_append_right _ (List.mem_append_right _ (List.mem_append_left _ (List.mem_of_getElem? (i := 28) rfl))))) rfl
set_option maxRecDepth 100000 in
theorem kw_509 : Cond.fieldLink RX11 96 RX11 "images" "[LNamesAgain$Image;" ∈ xg := xg_in (List.mem_append_right _ (List.mem_append_right _ (List.mem_append_right _ (List.mem_append_left _ (List.mem_of_getElem? (i := 29) rfl))))) rfl
set_option maxRecDepth 100000 in
theorem kw_51 : Cond.code yJ0_coder_7d493 cJ0_coder_7d493 1 (some .byte) ∈ xg := xg_in (List.mem_append_right _ (List.mem_append_left _ (List.mem_of_getElem? (i := 51) rfl))) rfl
set_option maxRecDepth 100000 in
theorem kw_510 : Cond.fieldLink RX11 122 RX11 "latestFault" "I" ∈ xg := xg_in (List.mem_append_right _ (List.mem_append_right _ (List.mem_append_right _ (List.mem_append_left _ (List.mem_of_getElem? (i := 30) rfl))))) rfl
set_option maxRecDepth 100000 in
theorem kw_52 : Cond.fieldLink RJ0 38 RJ0 "COMPACT_STRINGS" "Z" ∈ xg := xg_in (List.mem_append_right _ (List.mem_append_left _ (List.mem_of_getElem? (i := 52) rfl))) rfl
set_option maxRecDepth 100000 in
theorem kw_54 : Cond.methodLink RX6 39 yJ0_charAt_5068e ∈ xg := xg_in (List.mem_append_right _ (List.mem_append_left _ (List.mem_of_getElem? (i := 54) rfl))) rfl
set_option maxRecDepth 100000 in
theorem kw_548 : Cond.instanceMethod yX6_hasRoom ∈ xg := xg_in (List.mem_append_right _ (List.mem_append_right _ (List.mem_append_right _ (List.mem_append_left _ (List.mem_of_getElem? (i := 68) rfl))))) rfl
set_option maxRecDepth 100000 in
theorem kw_549 : Cond.code yX6_hasRoom cX6_hasRoom 2 (some .boolean) ∈ xg := xg_in (List.mem_append_right _ (List.mem_append_right _ (List.mem_append_right _ (List.mem_append_left _ (List.mem_of_getElem? (i := 69) rfl))))) rfl
set_option maxRecDepth 100000 in
theorem kw_55 : Cond.instanceMethod yJ0_charAt_5068e ∈ xg := xg_in (List.mem_append_right _ (List.mem_append_left _ (List.mem_of_getElem? (i := 55) rfl))) rfl
set_option maxRecDepth 100000 in
theorem kw_552 : Cond.instanceMethod yX6_put ∈ xg := xg_in (List.mem_append_right _ (List.mem_append_right _ (List.mem_append_right _ (List.mem_append_left _ (List.mem_of_getElem? (i := 72) rfl))))) rfl
set_option maxRecDepth 100000 in
theorem kw_553 : Cond.code yX6_put cX6_put 3 none ∈ xg := xg_in (List.mem_append_right _ (List.mem_append_right _ (List.mem_append_right _ (List.mem_append_left _ (List.mem_of_getElem? (i := 73) rfl))))) rfl
set_option maxRecDepth 100000 in
theorem kw_56 : Cond.selects RJ0 yJ0_charAt_5068e yJ0_charAt_5068e ∈ xg := xg_in (List.mem_append_right _ (List.mem_append_left _ (List.mem_of_getElem? (i := 56) rfl))) rfl
set_option maxRecDepth 100000 in
theorem kw_564 : Cond.instanceMethod yX8_read ∈ xg := xg_in (List.mem_append_right _ (List.mem_append_right _ (List.mem_append_right _ (List.mem_append_left _ (List.mem_of_getElem? (i := 84) rfl))))) rfl
set_option maxRecDepth 100000 in
theorem kw_565 : Cond.code yX8_read cX8_read 1 (some .boolean) ∈ xg := xg_in (List.mem_append_right _ (List.mem_append_right _ (List.mem_append_right _ (List.mem_append_left _ (List.mem_of_getElem? (i := 85) rfl))))) rfl
set_option maxRecDepth 100000 in
theorem kw_568 : Cond.instanceMethod yX7_clear ∈ xg := xg_in (List.mem_append_right _ (List.mem_append_right _ (List.mem_append_right _ (List.mem_append_left _ (List.mem_of_getElem? (i := 88) rfl))))) rfl
set_option maxRecDepth 100000 in
theorem kw_569 : Cond.code yX7_clear cX7_clear 1 none ∈ xg := xg_in (List.mem_append_right _ (List.mem_append_right _ (List.mem_append_right _ (List.mem_append_left _ (List.mem_of_getElem? (i := 89) rfl))))) rfl
set_option maxRecDepth 100000 in
theorem kw_57 : Cond.code yJ0_charAt_5068e cJ0_charAt_5068e 2 (some .char) ∈ xg := xg_in (List.mem_append_right _ (List.mem_append_left _ (List.mem_of_getElem? (i := 57) rfl))) rfl
set_option maxRecDepth 100000 in
theorem kw_572 : Cond.instanceMethod yX6_startText ∈ xg := xg_in (List.mem_append_right _ (List.mem_append_right _ (List.mem_append_right _ (List.mem_append_left _ (List.mem_of_getElem? (i := 92) rfl))))) rfl
set_option maxRecDepth 100000 in
theorem kw_573 : Cond.code yX6_startText cX6_startText 2 none ∈ xg := xg_in (List.mem_append_right _ (List.mem_append_right _ (List.mem_append_right _ (List.mem_append_left _ (List.mem_of_getElem? (i := 93) rfl))))) rfl
set_option maxRecDepth 100000 in
theorem kw_574 : Cond.methodLink RX6 57 yX6_advance ∈ xg := xg_in (List.mem_append_right _ (List.mem_append_right _ (List.mem_append_right _ (List.mem_append_left _ (List.mem_of_getElem? (i := 94) rfl))))) rfl
set_option maxRecDepth 100000 in
theorem kw_576 : Cond.instanceMethod yX6_advance ∈ xg := xg_in (List.mem_append_right _ (List.mem_append_right _ (List.mem_append_right _ (List.mem_append_left _ (List.mem_of_getElem? (i := 96) rfl))))) rfl
set_option maxRecDepth 100000 in
theorem kw_577 : Cond.code yX6_advance cX6_advance 4 none ∈ xg := xg_in (List.mem_append_right _ (List.mem_append_right _ (List.mem_append_right _ (List.mem_append_left _ (List.mem_of_getElem? (i := 97) rfl))))) rfl
set_option maxRecDepth 100000 in
theorem kw_578 : Cond.methodLink RX8 37 yX8_readLine ∈ xg := xg_in (List.mem_append_right _ (List.mem_append_right _ (List.mem_append_right _ (List.mem_append_left _ (List.mem_of_getElem? (i := 98) rfl))))) rfl
set_option maxRecDepth 100000 in
theorem kw_58 : Cond.methodLink RJ0 492 yJ0_isLatin1_aae02 ∈ xg := xg_in (List.mem_append_right _ (List.mem_append_left _ (List.mem_of_getElem? (i := 58) rfl))) rfl
set_option maxRecDepth 100000 in
theorem kw_580 : Cond.instanceMethod yX8_readLine ∈ xg := xg_in (List.mem_append_right _ (List.mem_append_right _ (List.mem_append_right _ (List.mem_append_left _ (List.mem_of_getElem? (i := 100) rfl))))) rfl
set_option maxRecDepth 100000 in
theorem kw_581 : Cond.code yX8_readLine cX8_readLine 1 (some .boolean) ∈ xg := xg_in (List.mem_append_right _ (List.mem_append_right _ (List.mem_append_right _ (List.mem_append_left _ (List.mem_of_getElem? (i := 101) rfl))))) rfl
set_option maxRecDepth 100000 in
theorem kw_585 : Cond.instanceMethod yX6_isWord ∈ xg := xg_in (List.mem_append_right _ (List.mem_append_right _ (List.mem_append_right _ (List.mem_append_left _ (List.mem_of_getElem? (i := 105) rfl))))) rfl
set_option maxRecDepth 100000 in
theorem kw_586 : Cond.code yX6_isWord cX6_isWord 5 (some .boolean) ∈ xg := xg_in (List.mem_append_right _ (List.mem_append_right _ (List.mem_append_right _ (List.mem_append_left _ (List.mem_of_getElem? (i := 106) rfl))))) rfl
set_option maxRecDepth 100000 in
theorem kw_587 : Cond.methodLink RX8 51 yX8_readNameLine ∈ xg := xg_in (List.mem_append_right _ (List.mem_append_right _ (List.mem_append_right _ (List.mem_append_left _ (List.mem_of_getElem? (i := 107) rfl))))) rfl
set_option maxRecDepth 100000 in
theorem kw_589 : Cond.instanceMethod yX8_readNameLine ∈ xg := xg_in (List.mem_append_right _ (List.mem_append_right _ (List.mem_append_right _ (List.mem_append_left _ (List.mem_of_getElem? (i := 109) rfl))))) rfl
set_option maxRecDepth 100000 in
theorem kw_59 : Cond.instanceMethod yJ0_isLatin1_aae02 ∈ xg := xg_in (List.mem_append_right _ (List.mem_append_left _ (List.mem_of_getElem? (i := 59) rfl))) rfl
set_option maxRecDepth 100000 in
theorem kw_590 : Cond.code yX8_readNameLine cX8_readNameLine 3 (some .boolean) ∈ xg := xg_in (List.mem_append_right _ (List.mem_append_right _ (List.mem_append_right _ (List.mem_append_left _ (List.mem_of_getElem? (i := 110) rfl))))) rfl
set_option maxRecDepth 100000 in
theorem kw_593 : Cond.instanceMethod yX6_refuse ∈ xg := xg_in (List.mem_append_right _ (List.mem_append_right _ (List.mem_append_right _ (List.mem_append_left _ (List.mem_of_getElem? (i := 113) rfl))))) rfl
set_option maxRecDepth 100000 in
theorem kw_594 : Cond.code yX6_refuse cX6_refuse 2 (some .boolean) ∈ xg := xg_in (List.mem_append_right _ (List.mem_append_right _ (List.mem_append_right _ (List.mem_append_left _ (List.mem_of_getElem? (i := 114) rfl))))) rfl
set_option maxRecDepth 100000 in
theorem kw_596 : Cond.methodLink RX8 106 yX8_passNewWord ∈ xg := xg_in (List.mem_append_right _ (List.mem_append_right _ (List.mem_append_right _ (List.mem_append_left _ (List.mem_of_getElem? (i := 116) rfl))))) rfl
set_option maxRecDepth 100000 in
theorem kw_598 : Cond.instanceMethod yX8_passNewWord ∈ xg := xg_in (List.mem_append_right _ (List.mem_append_right _ (List.mem_append_right _ (List.mem_append_left _ (List.mem_of_getElem? (i := 118) rfl))))) rfl
set_option maxRecDepth 100000 in
theorem kw_599 : Cond.code yX8_passNewWord cX8_passNewWord 2 (some .boolean) ∈ xg := xg_in (List.mem_append_right _ (List.mem_append_right _ (List.mem_append_right _ (List.mem_append_left _ (List.mem_of_getElem? (i := 119) rfl))))) rfl
set_option maxRecDepth 100000 in
theorem kw_60 : Cond.selects RJ0 yJ0_isLatin1_aae02 yJ0_isLatin1_aae02 ∈ xg := xg_in (List.mem_append_right _ (List.mem_append_left _ (List.mem_of_getElem? (i := 60) rfl))) rfl
set_option maxRecDepth 100000 in
theorem kw_602 : Cond.instanceMethod yX6_canBeNameOrSoul ∈ xg := xg_in (List.mem_append_right _ (List.mem_append_right _ (List.mem_append_right _ (List.mem_append_left _ (List.mem_of_getElem? (i := 122) rfl))))) rfl
set_option maxRecDepth 100000 in
theorem kw_603 : Cond.code yX6_canBeNameOrSoul cX6_canBeNameOrSoul 2 (some .boolean) ∈ xg := xg_in (List.mem_append_right _ (List.mem_append_right _ (List.mem_append_right _ (List.mem_append_left _ (List.mem_of_getElem? (i := 123) rfl))))) rfl
set_option maxRecDepth 100000 in
theorem kw_606 : Cond.instanceMethod yX7_findName ∈ xg := xg_in (List.mem_append_right _ (List.mem_append_right _ (List.mem_append_right _ (List.mem_append_left _ (List.mem_of_getElem? (i := 126) rfl))))) rfl
set_option maxRecDepth 100000 in
theorem kw_607 : Cond.code yX7_findName cX7_findName 3 (some .int) ∈ xg := xg_in (List.mem_append_right _ (List.mem_append_right _ (List.mem_append_right _ (List.mem_append_left _ (List.mem_of_getElem? (i := 127) rfl))))) rfl
set_option maxRecDepth 100000 in
theorem kw_608 : Cond.methodLink RX7 57 yX7_find ∈ xg := xg_in (List.mem_append_right _ (List.mem_append_right _ (List.mem_append_right _ (List.mem_append_left _ (List.mem_of_getElem? (i := 128) rfl))))) rfl
set_option maxRecDepth 100000 in
theorem kw_609 : Cond.static yX7_find ∈ xg := xg_in (List.mem_append_right _ (List.mem_append_right _ (List.mem_append_right _ (List.mem_append_left _ (List.mem_of_getElem? (i := 129) rfl))))) rfl
set_option maxRecDepth 100000 in
theorem kw_61 : Cond.code yJ0_isLatin1_aae02 cJ0_isLatin1_aae02 1 (some .boolean) ∈ xg := xg_in (List.mem_append_right _ (List.mem_append_left _ (List.mem_of_getElem? (i := 61) rfl))) rfl
set_option maxRecDepth 100000 in
theorem kw_610 : Cond.code yX7_find cX7_find 5 (some .int) ∈ xg := xg_in (List.mem_append_right _ (List.mem_append_right _ (List.mem_append_right _ (List.mem_append_left _ (List.mem_of_getElem? (i := 130) rfl))))) rfl
set_option maxRecDepth 100000 in
theorem kw_613 : Cond.instanceMethod yX7_findSoul ∈ xg := xg_in (List.mem_append_right _ (List.mem_append_right _ (List.mem_append_right _ (List.mem_append_left _ (List.mem_of_getElem? (i := 133) rfl))))) rfl
set_option maxRecDepth 100000 in
theorem kw_614 : Cond.code yX7_findSoul cX7_findSoul 3 (some .int) ∈ xg := xg_in (List.mem_append_right _ (List.mem_append_right _ (List.mem_append_right _ (List.mem_append_left _ (List.mem_of_getElem? (i := 134) rfl))))) rfl
set_option maxRecDepth 100000 in
theorem kw_617 : Cond.instanceMethod yX6_pass ∈ xg := xg_in (List.mem_append_right _ (List.mem_append_right _ (List.mem_append_right _ (List.mem_append_left _ (List.mem_of_getElem? (i := 137) rfl))))) rfl
set_option maxRecDepth 100000 in
theorem kw_618 : Cond.code yX6_pass cX6_pass 1 (some .boolean) ∈ xg := xg_in (List.mem_append_right _ (List.mem_append_right _ (List.mem_append_right _ (List.mem_append_left _ (List.mem_of_getElem? (i := 138) rfl))))) rfl
set_option maxRecDepth 100000 in
theorem kw_62 : Cond.methodLink RJ0 495 yJ1_charAt_3b067 ∈ xg := xg_in (List.mem_append_right _ (List.mem_append_left _ (List.mem_of_getElem? (i := 62) rfl))) rfl
set_option maxRecDepth 100000 in
theorem kw_621 : Cond.instanceMethod yX6_passNumber ∈ xg := xg_in (List.mem_append_right _ (List.mem_append_right _ (List.mem_append_right _ (List.mem_append_left _ (List.mem_of_getElem? (i := 141) rfl))))) rfl
set_option maxRecDepth 100000 in
theorem kw_622 : Cond.code yX6_passNumber cX6_passNumber 3 (some .boolean) ∈ xg := xg_in (List.mem_append_right _ (List.mem_append_right _ (List.mem_append_right _ (List.mem_append_left _ (List.mem_of_getElem? (i := 142) rfl))))) rfl
set_option maxRecDepth 100000 in
theorem kw_623 : Cond.methodLink RX6 84 yX6_refuse ∈ xg := xg_in (List.mem_append_right _ (List.mem_append_right _ (List.mem_append_right _ (List.mem_append_left _ (List.mem_of_getElem? (i := 143) rfl))))) rfl
set_option maxRecDepth 100000 in
theorem kw_626 : Cond.instanceMethod yX7_addName ∈ xg := xg_in (List.mem_append_right _ (List.mem_append_right _ (List.mem_append_right _ (List.mem_append_left _ (List.mem_of_getElem? (i := 146) rfl))))) rfl
set_option maxRecDepth 100000 in
theorem kw_627 : Cond.code yX7_addName cX7_addName 4 none ∈ xg := xg_in (List.mem_append_right _ (List.mem_append_right _ (List.mem_append_right _ (List.mem_append_left _ (List.mem_of_getElem? (i := 147) rfl))))) rfl
set_option maxRecDepth 100000 in
theorem kw_629 : Cond.methodLink RX8 63 yX8_readOfName ∈ xg := xg_in (List.mem_append_right _ (List.mem_append_right _ (List.mem_append_right _ (List.mem_append_left _ (List.mem_of_getElem? (i := 149) rfl))))) rfl
set_option maxRecDepth 100000 in
theorem kw_63 : Cond.static yJ1_charAt_3b067 ∈ xg := xg_in (List.mem_append_right _ (List.mem_append_left _ (List.mem_of_getElem? (i := 63) rfl))) rfl
set_option maxRecDepth 100000 in
theorem kw_631 : Cond.instanceMethod yX8_readOfName ∈ xg := xg_in (List.mem_append_right _ (List.mem_append_right _ (List.mem_append_right _ (List.mem_append_left _ (List.mem_of_getElem? (i := 151) rfl))))) rfl
set_option maxRecDepth 100000 in
theorem kw_632 : Cond.code yX8_readOfName cX8_readOfName 5 (some .boolean) ∈ xg := xg_in (List.mem_append_right _ (List.mem_append_right _ (List.mem_append_right _ (List.mem_append_left _ (List.mem_of_getElem? (i := 152) rfl))))) rfl
set_option maxRecDepth 100000 in
theorem kw_633 : Cond.methodLink RX8 147 yX8_passOnce ∈ xg := xg_in (List.mem_append_right _ (List.mem_append_right _ (List.mem_append_right _ (List.mem_append_left _ (List.mem_of_getElem? (i := 153) rfl))))) rfl
set_option maxRecDepth 100000 in
theorem kw_635 : Cond.instanceMethod yX8_passOnce ∈ xg := xg_in (List.mem_append_right _ (List.mem_append_right _ (List.mem_append_right _ (List.mem_append_left _ (List.mem_of_getElem? (i := 155) rfl))))) rfl
set_option maxRecDepth 100000 in
theorem kw_636 : Cond.code yX8_passOnce cX8_passOnce 4 (some .boolean) ∈ xg := xg_in (List.mem_append_right _ (List.mem_append_right _ (List.mem_append_right _ (List.mem_append_left _ (List.mem_of_getElem? (i := 156) rfl))))) rfl
set_option maxRecDepth 100000 in
theorem kw_639 : Cond.instanceMethod yX6_passKnown ∈ xg := xg_in (List.mem_append_right _ (List.mem_append_right _ (List.mem_append_right _ (List.mem_append_left _ (List.mem_of_getElem? (i := 159) rfl))))) rfl
set_option maxRecDepth 100000 in
theorem kw_64 : Cond.code yJ1_charAt_3b067 cJ1_charAt_3b067 2 (some .char) ∈ xg := xg_in (List.mem_append_right _ (List.mem_append_left _ (List.mem_of_getElem? (i := 64) rfl))) rfl
set_option maxRecDepth 100000 in
theorem kw_640 : Cond.code yX6_passKnown cX6_passKnown 2 (some .boolean) ∈ xg := xg_in (List.mem_append_right _ (List.mem_append_right _ (List.mem_append_right _ (List.mem_append_left _ (List.mem_of_getElem? (i := 160) rfl))))) rfl
set_option maxRecDepth 100000 in
theorem kw_641 : Cond.methodLink RX6 91 yX6_canBeNameOrSoul ∈ xg := xg_in (List.mem_append_right _ (List.mem_append_right _ (List.mem_append_right _ (List.mem_append_left _ (List.mem_of_getElem? (i := 161) rfl))))) rfl
set_option maxRecDepth 100000 in
theorem kw_644 : Cond.methodLink RX8 74 yX8_readSoulLine ∈ xg := xg_in (List.mem_append_right _ (List.mem_append_right _ (List.mem_append_right _ (List.mem_append_left _ (List.mem_of_getElem? (i := 164) rfl))))) rfl
set_option maxRecDepth 100000 in
theorem kw_646 : Cond.instanceMethod yX8_readSoulLine ∈ xg := xg_in (List.mem_append_right _ (List.mem_append_right _ (List.mem_append_right _ (List.mem_append_left _ (List.mem_of_getElem? (i := 166) rfl))))) rfl
set_option maxRecDepth 100000 in
theorem kw_647 : Cond.code yX8_readSoulLine cX8_readSoulLine 3 (some .boolean) ∈ xg := xg_in (List.mem_append_right _ (List.mem_append_right _ (List.mem_append_right _ (List.mem_append_left _ (List.mem_of_getElem? (i := 167) rfl))))) rfl
set_option maxRecDepth 100000 in
theorem kw_65 : Cond.methodLink RJ1 9 yJ0_checkIndex_df160 ∈ xg := xg_in (List.mem_append_right _ (List.mem_append_left _ (List.mem_of_getElem? (i := 65) rfl))) rfl
set_option maxRecDepth 100000 in
theorem kw_650 : Cond.instanceMethod yX7_addSoul ∈ xg := xg_in (List.mem_append_right _ (List.mem_append_right _ (List.mem_append_right _ (List.mem_append_left _ (List.mem_of_getElem? (i := 170) rfl))))) rfl
set_option maxRecDepth 100000 in
theorem kw_651 : Cond.code yX7_addSoul cX7_addSoul 5 none ∈ xg := xg_in (List.mem_append_right _ (List.mem_append_right _ (List.mem_append_right _ (List.mem_append_left _ (List.mem_of_getElem? (i := 171) rfl))))) rfl
set_option maxRecDepth 100000 in
theorem kw_653 : Cond.methodLink RX8 128 yX8_readFirstName ∈ xg := xg_in (List.mem_append_right _ (List.mem_append_right _ (List.mem_append_right _ (List.mem_append_left _ (List.mem_of_getElem? (i := 173) rfl))))) rfl
set_option maxRecDepth 100000 in
theorem kw_655 : Cond.instanceMethod yX8_readFirstName ∈ xg := xg_in (List.mem_append_right _ (List.mem_append_right _ (List.mem_append_right _ (List.mem_append_left _ (List.mem_of_getElem? (i := 175) rfl))))) rfl
set_option maxRecDepth 100000 in
theorem kw_656 : Cond.code yX8_readFirstName cX8_readFirstName 3 (some .boolean) ∈ xg := xg_in (List.mem_append_right _ (List.mem_append_right _ (List.mem_append_right _ (List.mem_append_left _ (List.mem_of_getElem? (i := 176) rfl))))) rfl
set_option maxRecDepth 100000 in
theorem kw_659 : Cond.instanceMethod yX7_isBorneAtFirst ∈ xg := xg_in (List.mem_append_right _ (List.mem_append_right _ (List.mem_append_right _ (List.mem_append_left _ (List.mem_of_getElem? (i := 179) rfl))))) rfl
set_option maxRecDepth 100000 in
theorem kw_66 : Cond.static yJ0_checkIndex_df160 ∈ xg := xg_in (List.mem_append_right _ (List.mem_append_left _ (List.mem_of_getElem? (i := 66) rfl))) rfl
set_option maxRecDepth 100000 in
theorem kw_660 : Cond.code yX7_isBorneAtFirst cX7_isBorneAtFirst 3 (some .boolean) ∈ xg := xg_in (List.mem_append_right _ (List.mem_append_right _ (List.mem_append_right _ (List.mem_append_left _ (List.mem_of_getElem? (i := 180) rfl))))) rfl
set_option maxRecDepth 100000 in
theorem kw_663 : Cond.instanceMethod yX7_isSoul ∈ xg := xg_in (List.mem_append_right _ (List.mem_append_right _ (List.mem_append_right _ (List.mem_append_left _ (List.mem_of_getElem? (i := 183) rfl))))) rfl
set_option maxRecDepth 100000 in
theorem kw_664 : Cond.code yX7_isSoul cX7_isSoul 2 (some .boolean) ∈ xg := xg_in (List.mem_append_right _ (List.mem_append_right _ (List.mem_append_right _ (List.mem_append_left _ (List.mem_of_getElem? (i := 184) rfl))))) rfl
set_option maxRecDepth 100000 in
theorem kw_666 : Cond.methodLink RX8 79 yX8_readWish ∈ xg := xg_in (List.mem_append_right _ (List.mem_append_right _ (List.mem_append_right _ (List.mem_append_left _ (List.mem_of_getElem? (i := 186) rfl))))) rfl
set_option maxRecDepth 100000 in
theorem kw_668 : Cond.instanceMethod yX8_readWish ∈ xg := xg_in (List.mem_append_right _ (List.mem_append_right _ (List.mem_append_right _ (List.mem_append_left _ (List.mem_of_getElem? (i := 188) rfl))))) rfl
set_option maxRecDepth 100000 in
theorem kw_669 : Cond.code yX8_readWish cX8_readWish 2 (some .boolean) ∈ xg := xg_in (List.mem_append_right _ (List.mem_append_right _ (List.mem_append_right _ (List.mem_append_left _ (List.mem_of_getElem? (i := 189) rfl))))) rfl
set_option maxRecDepth 100000 in
theorem kw_67 : Cond.code yJ0_checkIndex_df160 cJ0_checkIndex_df160 2 none ∈ xg := xg_in (List.mem_append_right _ (List.mem_append_left _ (List.mem_of_getElem? (i := 67) rfl))) rfl
set_option maxRecDepth 100000 in
theorem kw_671 : Cond.methodLink RX8 84 yX8_readWorth ∈ xg := xg_in (List.mem_append_right _ (List.mem_append_right _ (List.mem_append_right _ (List.mem_append_left _ (List.mem_of_getElem? (i := 191) rfl))))) rfl
set_option maxRecDepth 100000 in
theorem kw_673 : Cond.instanceMethod yX8_readWorth ∈ xg := xg_in (List.mem_append_right _ (List.mem_append_right _ (List.mem_append_right _ (List.mem_append_left _ (List.mem_of_getElem? (i := 193) rfl))))) rfl
set_option maxRecDepth 100000 in
theorem kw_674 : Cond.code yX8_readWorth cX8_readWorth 3 (some .boolean) ∈ xg := xg_in (List.mem_append_right _ (List.mem_append_right _ (List.mem_append_right _ (List.mem_append_left _ (List.mem_of_getElem? (i := 194) rfl))))) rfl
set_option maxRecDepth 100000 in
theorem kw_677 : Cond.instanceMethod yX7_worthOf ∈ xg := xg_in (List.mem_append_right _ (List.mem_append_right _ (List.mem_append_right _ (List.mem_append_left _ (List.mem_of_getElem? (i := 197) rfl))))) rfl
set_option maxRecDepth 100000 in
theorem kw_678 : Cond.code yX7_worthOf cX7_worthOf 3 (some .int) ∈ xg := xg_in (List.mem_append_right _ (List.mem_append_right _ (List.mem_append_right _ (List.mem_append_left _ (List.mem_of_getElem? (i := 198) rfl))))) rfl
set_option maxRecDepth 100000 in
theorem kw_679 : Cond.methodLink RX7 61 yX7_isSoul ∈ xg := xg_in (List.mem_append_right _ (List.mem_append_right _ (List.mem_append_right _ (List.mem_append_left _ (List.mem_of_getElem? (i := 199) rfl))))) rfl
set_option maxRecDepth 100000 in
theorem kw_68 : Cond.fieldLink RJ0 1053 RJ3 "SIOOBE_FORMATTER" "Ljava/util/function/BiFunction;" ∈ xg := xg_in (List.mem_append_right _ (List.mem_append_left _ (List.mem_of_getElem? (i := 68) rfl))) rfl
set_option maxRecDepth 100000 in
theorem kw_680 : Cond.methodLink RX7 65 yX7_isName ∈ xg := xg_in (List.mem_append_right _ (List.mem_append_right _ (List.mem_append_right _ (List.mem_append_left _ (List.mem_of_getElem? (i := 200) rfl))))) rfl
set_option maxRecDepth 100000 in
theorem kw_682 : Cond.instanceMethod yX7_isName ∈ xg := xg_in (List.mem_append_right _ (List.mem_append_right _ (List.mem_append_right _ (List.mem_append_left _ (List.mem_of_getElem? (i := 202) rfl))))) rfl
set_option maxRecDepth 100000 in
theorem kw_683 : Cond.code yX7_isName cX7_isName 2 (some .boolean) ∈ xg := xg_in (List.mem_append_right _ (List.mem_append_right _ (List.mem_append_right _ (List.mem_append_left _ (List.mem_of_getElem? (i := 203) rfl))))) rfl
set_option maxRecDepth 100000 in
theorem kw_686 : Cond.methodLink RX8 89 yX8_readOld ∈ xg := xg_in (List.mem_append_right _ (List.mem_append_right _ (List.mem_append_right _ (List.mem_append_left _ (List.mem_of_getElem? (i := 206) rfl))))) rfl
set_option maxRecDepth 100000 in
theorem kw_688 : Cond.instanceMethod yX8_readOld ∈ xg := xg_in (List.mem_append_right _ (List.mem_append_right _ (List.mem_append_right _ (List.mem_append_left _ (List.mem_of_getElem? (i := 208) rfl))))) rfl
set_option maxRecDepth 100000 in
theorem kw_689 : Cond.code yX8_readOld cX8_readOld 2 (some .boolean) ∈ xg := xg_in (List.mem_append_right _ (List.mem_append_right _ (List.mem_append_right _ (List.mem_append_left _ (List.mem_of_getElem? (i := 209) rfl))))) rfl
set_option maxRecDepth 100000 in
theorem kw_692 : Cond.instanceMethod yX6_passSign ∈ xg := xg_in (List.mem_append_right _ (List.mem_append_right _ (List.mem_append_right _ (List.mem_append_left _ (List.mem_of_getElem? (i := 212) rfl))))) rfl
set_option maxRecDepth 100000 in
theorem kw_693 : Cond.code yX6_passSign cX6_passSign 2 (some .boolean) ∈ xg := xg_in (List.mem_append_right _ (List.mem_append_right _ (List.mem_append_right _ (List.mem_append_left _ (List.mem_of_getElem? (i := 213) rfl))))) rfl
set_option maxRecDepth 100000 in
theorem kw_694 : Cond.methodLink RX6 76 yX6_isSign ∈ xg := xg_in (List.mem_append_right _ (List.mem_append_right _ (List.mem_append_right _ (List.mem_append_left _ (List.mem_of_getElem? (i := 214) rfl))))) rfl
set_option maxRecDepth 100000 in
theorem kw_696 : Cond.instanceMethod yX6_isSign ∈ xg := xg_in (List.mem_append_right _ (List.mem_append_right _ (List.mem_append_right _ (List.mem_append_left _ (List.mem_of_getElem? (i := 216) rfl))))) rfl
set_option maxRecDepth 100000 in
theorem kw_697 : Cond.code yX6_isSign cX6_isSign 2 (some .boolean) ∈ xg := xg_in (List.mem_append_right _ (List.mem_append_right _ (List.mem_append_right _ (List.mem_append_left _ (List.mem_of_getElem? (i := 217) rfl))))) rfl
set_option maxRecDepth 100000 in
theorem kw_698 : Cond.methodLink RX6 80 yX6_pass ∈ xg := xg_in (List.mem_append_right _ (List.mem_append_right _ (List.mem_append_right _ (List.mem_append_left _ (List.mem_of_getElem? (i := 218) rfl))))) rfl
set_option maxRecDepth 100000 in
theorem kw_7 : Cond.initialized RX7 ∈ xg := xg_in (List.mem_append_right _ (List.mem_append_left _ (List.mem_of_getElem? (i := 7) rfl))) rfl
set_option maxRecDepth 100000 in
theorem kw_70 : Cond.methodLink RJ0 1059 yJ3_checkIndex_8e157 ∈ xg := xg_in (List.mem_append_right _ (List.mem_append_left _ (List.mem_of_getElem? (i := 70) rfl))) rfl
set_option maxRecDepth 100000 in
theorem kw_701 : Cond.instanceMethod yX7_copyFrom ∈ xg := xg_in (List.mem_append_right _ (List.mem_append_right _ (List.mem_append_right _ (List.mem_append_left _ (List.mem_of_getElem? (i := 221) rfl))))) rfl
set_option maxRecDepth 100000 in
theorem kw_702 : Cond.code yX7_copyFrom cX7_copyFrom 2 none ∈ xg := xg_in (List.mem_append_right _ (List.mem_append_right _ (List.mem_append_right _ (List.mem_append_left _ (List.mem_of_getElem? (i := 222) rfl))))) rfl
set_option maxRecDepth 100000 in
theorem kw_71 : Cond.static yJ3_checkIndex_8e157 ∈ xg := xg_in (List.mem_append_right _ (List.mem_append_left _ (List.mem_of_getElem? (i := 71) rfl))) rfl
set_option maxRecDepth 100000 in
theorem kw_717 : Cond.instanceMethod yX2_begin ∈ xg := xg_in (List.mem_append_right _ (List.mem_append_right _ (List.mem_append_right _ (List.mem_append_left _ (List.mem_of_getElem? (i := 237) rfl))))) rfl
set_option maxRecDepth 100000 in
theorem kw_718 : Cond.code yX2_begin cX2_begin 2 none ∈ xg := xg_in (List.mem_append_right _ (List.mem_append_right _ (List.mem_append_right _ (List.mem_append_left _ (List.mem_of_getElem? (i := 238) rfl))))) rfl
set_option maxRecDepth 100000 in
theorem kw_72 : Cond.code yJ3_checkIndex_8e157 cJ3_checkIndex_8e157 3 (some .int) ∈ xg := xg_in (List.mem_append_right _ (List.mem_append_left _ (List.mem_of_getElem? (i := 72) rfl))) rfl
set_option maxRecDepth 100000 in
theorem kw_733 : Cond.instanceMethod yX9_forget ∈ xg := xg_in (List.mem_append_right _ (List.mem_append_right _ (List.mem_append_right _ (List.mem_append_right _ (List.mem_append_left _ (List.mem_of_getElem? (i := 13) rfl)))))) rfl
set_option maxRecDepth 100000 in
theorem kw_734 : Cond.code yX9_forget cX9_forget 1 none ∈ xg := xg_in (List.mem_append_right _ (List.mem_append_right _ (List.mem_append_right _ (List.mem_append_right _ (List.mem_append_left _ (List.mem_of_getElem? (i := 14) rfl)))))) rfl
set_option maxRecDepth 100000 in
theorem kw_795 : Cond.instanceMethod yX2_isAlive ∈ xg := xg_in (List.mem_append_right _ (List.mem_append_right _ (List.mem_append_right _ (List.mem_append_right _ (List.mem_append_left _ (List.mem_of_getElem? (i := 75) rfl)))))) rfl
set_option maxRecDepth 100000 in
theorem kw_796 : Cond.code yX2_isAlive cX2_isAlive 2 (some .boolean) ∈ xg := xg_in (List.mem_append_right _ (List.mem_append_right _ (List.mem_append_right _ (List.mem_append_right _ (List.mem_append_left _ (List.mem_of_getElem? (i := 76) rfl)))))) rfl
set_option maxRecDepth 100000 in
theorem kw_8 : Cond.initialized RX8 ∈ xg := xg_in (List.mem_append_right _ (List.mem_append_left _ (List.mem_of_getElem? (i := 8) rfl))) rfl
set_option maxRecDepth 100000 in
theorem kw_800 : Cond.instanceMethod yX2_waitAhead ∈ xg := xg_in (List.mem_append_right _ (List.mem_append_right _ (List.mem_append_right _ (List.mem_append_right _ (List.mem_append_left _ (List.mem_of_getElem? (i := 80) rfl)))))) rfl
set_option maxRecDepth 100000 in
theorem kw_801 : Cond.code yX2_waitAhead cX2_waitAhead 3 (some .int) ∈ xg := xg_in (List.mem_append_right _ (List.mem_append_right _ (List.mem_append_right _ (List.mem_append_right _ (List.mem_append_left _ (List.mem_of_getElem? (i := 81) rfl)))))) rfl
set_option maxRecDepth 100000 in
theorem kw_809 : Cond.instanceMethod yX2_hasChanged ∈ xg := xg_in (List.mem_append_right _ (List.mem_append_right _ (List.mem_append_right _ (List.mem_append_right _ (List.mem_append_left _ (List.mem_of_getElem? (i := 89) rfl)))))) rfl
set_option maxRecDepth 100000 in
theorem kw_810 : Cond.code yX2_hasChanged cX2_hasChanged 2 (some .boolean) ∈ xg := xg_in (List.mem_append_right _ (List.mem_append_right _ (List.mem_append_right _ (List.mem_append_right _ (List.mem_append_left _ (List.mem_of_getElem? (i := 90) rfl)))))) rfl
set_option maxRecDepth 100000 in
theorem kw_829 : Cond.instanceMethod yX9_keep ∈ xg := xg_in (List.mem_append_right _ (List.mem_append_right _ (List.mem_append_right _ (List.mem_append_right _ (List.mem_append_left _ (List.mem_of_getElem? (i := 109) rfl)))))) rfl
set_option maxRecDepth 100000 in
theorem kw_830 : Cond.code yX9_keep cX9_keep 2 none ∈ xg := xg_in (List.mem_append_right _ (List.mem_append_right _ (List.mem_append_right _ (List.mem_append_right _ (List.mem_append_left _ (List.mem_of_getElem? (i := 110) rfl)))))) rfl
set_option maxRecDepth 100000 in
theorem kw_833 : Cond.instanceMethod yX2_copyFrom ∈ xg := xg_in (List.mem_append_right _ (List.mem_append_right _ (List.mem_append_right _ (List.mem_append_right _ (List.mem_append_left _ (List.mem_of_getElem? (i := 113) rfl)))))) rfl
set_option maxRecDepth 100000 in
theorem kw_834 : Cond.code yX2_copyFrom cX2_copyFrom 2 none ∈ xg := xg_in (List.mem_append_right _ (List.mem_append_right _ (List.mem_append_right _ (List.mem_append_right _ (List.mem_append_left _ (List.mem_of_getElem? (i := 114) rfl)))))) rfl
set_option maxRecDepth 100000 in
theorem kw_9 : Cond.initialized RX2 ∈ xg := xg_in (List.mem_append_right _ (List.mem_append_left _ (List.mem_of_getElem? (i := 9) rfl))) rfl
set_option maxRecDepth 100000 in
theorem kw_94 : Cond.fieldLink RX6 11 RX6 "bytes" "[B" ∈ xg := xg_in (List.mem_append_right _ (List.mem_append_left _ (List.mem_of_getElem? (i := 94) rfl))) rfl
set_option maxRecDepth 100000 in
theorem kw_95 : Cond.fieldLink RX6 15 RX6 "ownWords" "[J" ∈ xg := xg_in (List.mem_append_right _ (List.mem_append_left _ (List.mem_of_getElem? (i := 95) rfl))) rfl
set_option maxRecDepth 100000 in
theorem kw_96 : Cond.fieldLink RX6 35 RX6 "ownCount" "I" ∈ xg := xg_in (List.mem_append_right _ (List.mem_append_left _ (List.mem_of_getElem? (i := 96) rfl))) rfl
set_option maxRecDepth 100000 in
theorem kw_98 : Cond.fieldLink RX6 43 RX6 "length" "I" ∈ xg := xg_in (List.mem_append_right _ (List.mem_append_left _ (List.mem_of_getElem? (i := 98) rfl))) rfl
set_option maxRecDepth 100000 in
theorem kw_99 : Cond.fieldLink RX6 45 RX6 "most" "I" ∈ xg := xg_in (List.mem_append_right _ (List.mem_append_left _ (List.mem_of_getElem? (i := 99) rfl))) rfl
