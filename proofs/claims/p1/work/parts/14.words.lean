theorem kn_1004 : Cond.methodLinkNest RX11 278 yX10_findSwaps "NamesAgain" ∈ xn := xn_in (List.mem_append_right _ (List.mem_of_getElem? (i := 1004) (by decide +kernel))) rfl
theorem kn_101 : Cond.fieldLinkNest RX4 39 RX6 "kind" "I" "NamesAgain" ∈ xn := xn_in (List.mem_append_right _ (List.mem_of_getElem? (i := 101) (by decide +kernel))) rfl
theorem kn_102 : Cond.fieldLinkNest RX8 34 RX6 "kind" "I" "NamesAgain" ∈ xn := xn_in (List.mem_append_right _ (List.mem_of_getElem? (i := 102) (by decide +kernel))) rfl
theorem kn_1059 : Cond.methodLinkNest RX11 299 yX2_hasVotes "NamesAgain" ∈ xn := xn_in (List.mem_append_right _ (List.mem_of_getElem? (i := 1059) (by decide +kernel))) rfl
theorem kn_1132 : Cond.methodLinkNest RX11 325 yX2_copyFrom "NamesAgain" ∈ xn := xn_in (List.mem_append_right _ (List.mem_of_getElem? (i := 1132) (by decide +kernel))) rfl
theorem kn_1137 : Cond.methodLinkNest RX11 327 yX4_read "NamesAgain" ∈ xn := xn_in (List.mem_append_right _ (List.mem_of_getElem? (i := 1137) (by decide +kernel))) rfl
theorem kn_1141 : Cond.methodLinkNest RX4 33 yX6_startText "NamesAgain" ∈ xn := xn_in (List.mem_append_right _ (List.mem_of_getElem? (i := 1141) (by decide +kernel))) rfl
theorem kn_117 : Cond.fieldLinkNest RX11 119 RX6 "faultKind" "I" "NamesAgain" ∈ xn := xn_in (List.mem_append_right _ (List.mem_of_getElem? (i := 117) (by decide +kernel))) rfl
theorem kn_1171 : Cond.methodLinkNest RX11 328 yX4_judge "NamesAgain" ∈ xn := xn_in (List.mem_append_right _ (List.mem_of_getElem? (i := 1171) (by decide +kernel))) rfl
theorem kn_1185 : Cond.methodLinkNest RX11 348 yX5_read "NamesAgain" ∈ xn := xn_in (List.mem_append_right _ (List.mem_of_getElem? (i := 1185) (by decide +kernel))) rfl
theorem kn_1189 : Cond.methodLinkNest RX5 43 yX6_startText "NamesAgain" ∈ xn := xn_in (List.mem_append_right _ (List.mem_of_getElem? (i := 1189) (by decide +kernel))) rfl
theorem kn_119 : Cond.fieldLinkNest RX11 125 RX6 "faultPlace" "I" "NamesAgain" ∈ xn := xn_in (List.mem_append_right _ (List.mem_of_getElem? (i := 119) (by decide +kernel))) rfl
theorem kn_1207 : Cond.methodLinkNest RX5 64 yX6_isWord "NamesAgain" ∈ xn := xn_in (List.mem_append_right _ (List.mem_of_getElem? (i := 1207) (by decide +kernel))) rfl
theorem kn_1217 : Cond.methodLinkNest RX5 86 yX6_isSign "NamesAgain" ∈ xn := xn_in (List.mem_append_right _ (List.mem_of_getElem? (i := 1217) (by decide +kernel))) rfl
theorem kn_1218 : Cond.methodLinkNest RX5 56 yX6_refuse "NamesAgain" ∈ xn := xn_in (List.mem_append_right _ (List.mem_of_getElem? (i := 1218) (by decide +kernel))) rfl
theorem kn_1234 : Cond.methodLinkNest RX11 349 yX5_copyFrom "NamesAgain" ∈ xn := xn_in (List.mem_append_right _ (List.mem_of_getElem? (i := 1234) (by decide +kernel))) rfl
theorem kn_1238 : Cond.methodLinkNest RX5 39 yX11_copyRow "NamesAgain" ∈ xn := xn_in (List.mem_append_right _ (List.mem_of_getElem? (i := 1238) (by decide +kernel))) rfl
theorem kn_154 : Cond.methodLinkNest RX11 18 yX7_init "NamesAgain" ∈ xn := xn_in (List.mem_append_right _ (List.mem_of_getElem? (i := 154) (by decide +kernel))) rfl
theorem kn_159 : Cond.fieldLinkNest RX2 65 RX7 "names" "I" "NamesAgain" ∈ xn := xn_in (List.mem_append_right _ (List.mem_of_getElem? (i := 159) (by decide +kernel))) rfl
theorem kn_162 : Cond.fieldLinkNest RX11 223 RX7 "names" "I" "NamesAgain" ∈ xn := xn_in (List.mem_append_right _ (List.mem_of_getElem? (i := 162) (by decide +kernel))) rfl
theorem kn_164 : Cond.fieldLinkNest RX2 45 RX7 "souls" "I" "NamesAgain" ∈ xn := xn_in (List.mem_append_right _ (List.mem_of_getElem? (i := 164) (by decide +kernel))) rfl
theorem kn_165 : Cond.fieldLinkNest RX10 34 RX7 "souls" "I" "NamesAgain" ∈ xn := xn_in (List.mem_append_right _ (List.mem_of_getElem? (i := 165) (by decide +kernel))) rfl
theorem kn_167 : Cond.fieldLinkNest RX11 216 RX7 "souls" "I" "NamesAgain" ∈ xn := xn_in (List.mem_append_right _ (List.mem_of_getElem? (i := 167) (by decide +kernel))) rfl
theorem kn_224 : Cond.methodLinkNest RX11 28 yX8_init "NamesAgain" ∈ xn := xn_in (List.mem_append_right _ (List.mem_of_getElem? (i := 224) (by decide +kernel))) rfl
theorem kn_231 : Cond.fieldLinkNest RX11 140 RX8 "lineCount" "I" "NamesAgain" ∈ xn := xn_in (List.mem_append_right _ (List.mem_of_getElem? (i := 231) (by decide +kernel))) rfl
theorem kn_241 : Cond.methodLinkNest RX11 37 yX2_init "NamesAgain" ∈ xn := xn_in (List.mem_append_right _ (List.mem_of_getElem? (i := 241) (by decide +kernel))) rfl
theorem kn_248 : Cond.fieldLinkNest RX4 129 RX2 "monday" "I" "NamesAgain" ∈ xn := xn_in (List.mem_append_right _ (List.mem_of_getElem? (i := 248) (by decide +kernel))) rfl
theorem kn_249 : Cond.fieldLinkNest RX11 203 RX2 "monday" "I" "NamesAgain" ∈ xn := xn_in (List.mem_append_right _ (List.mem_of_getElem? (i := 249) (by decide +kernel))) rfl
theorem kn_251 : Cond.fieldLinkNest RX11 206 RX2 "living" "I" "NamesAgain" ∈ xn := xn_in (List.mem_append_right _ (List.mem_of_getElem? (i := 251) (by decide +kernel))) rfl
theorem kn_254 : Cond.fieldLinkNest RX11 226 RX2 "fugitives" "I" "NamesAgain" ∈ xn := xn_in (List.mem_append_right _ (List.mem_of_getElem? (i := 254) (by decide +kernel))) rfl
theorem kn_258 : Cond.fieldLinkNest RX4 134 RX2 "waitCount" "I" "NamesAgain" ∈ xn := xn_in (List.mem_append_right _ (List.mem_of_getElem? (i := 258) (by decide +kernel))) rfl
theorem kn_259 : Cond.fieldLinkNest RX11 213 RX2 "waitCount" "I" "NamesAgain" ∈ xn := xn_in (List.mem_append_right _ (List.mem_of_getElem? (i := 259) (by decide +kernel))) rfl
theorem kn_265 : Cond.fieldLinkNest RX11 154 RX2 "debt" "[I" "NamesAgain" ∈ xn := xn_in (List.mem_append_right _ (List.mem_of_getElem? (i := 265) (by decide +kernel))) rfl
theorem kn_273 : Cond.fieldLinkNest RX11 178 RX2 "purse" "[I" "NamesAgain" ∈ xn := xn_in (List.mem_append_right _ (List.mem_of_getElem? (i := 273) (by decide +kernel))) rfl
theorem kn_315 : Cond.methodLinkNest RX11 49 yX9_init "NamesAgain" ∈ xn := xn_in (List.mem_append_right _ (List.mem_of_getElem? (i := 315) (by decide +kernel))) rfl
theorem kn_321 : Cond.methodLinkNest RX9 15 yX2_init "NamesAgain" ∈ xn := xn_in (List.mem_append_right _ (List.mem_of_getElem? (i := 321) (by decide +kernel))) rfl
theorem kn_335 : Cond.methodLinkNest RX11 56 yX4_init "NamesAgain" ∈ xn := xn_in (List.mem_append_right _ (List.mem_of_getElem? (i := 335) (by decide +kernel))) rfl
theorem kn_346 : Cond.fieldLinkNest RX11 332 RX4 "judged" "Z" "NamesAgain" ∈ xn := xn_in (List.mem_append_right _ (List.mem_of_getElem? (i := 346) (by decide +kernel))) rfl
theorem kn_35 : Cond.methodLinkNest RX11 9 yX6_init "NamesAgain" ∈ xn := xn_in (List.mem_append_right _ (List.mem_of_getElem? (i := 35) (by decide +kernel))) rfl
theorem kn_380 : Cond.methodLinkNest RX11 63 yX5_init "NamesAgain" ∈ xn := xn_in (List.mem_append_right _ (List.mem_of_getElem? (i := 380) (by decide +kernel))) rfl
theorem kn_392 : Cond.fieldLinkNest RX11 137 RX5 "ones" "I" "NamesAgain" ∈ xn := xn_in (List.mem_append_right _ (List.mem_of_getElem? (i := 392) (by decide +kernel))) rfl
theorem kn_412 : Cond.methodLinkNest RX11 73 yX10_init "NamesAgain" ∈ xn := xn_in (List.mem_append_right _ (List.mem_of_getElem? (i := 412) (by decide +kernel))) rfl
theorem kn_434 : Cond.methodLinkNest RX11 82 yX3_init "NamesAgain" ∈ xn := xn_in (List.mem_append_right _ (List.mem_of_getElem? (i := 434) (by decide +kernel))) rfl
theorem kn_444 : Cond.fieldLinkNest RX11 313 RX3 "cheapestName" "I" "NamesAgain" ∈ xn := xn_in (List.mem_append_right _ (List.mem_of_getElem? (i := 444) (by decide +kernel))) rfl
theorem kn_458 : Cond.methodLinkNest RX11 89 yX0_init "NamesAgain" ∈ xn := xn_in (List.mem_append_right _ (List.mem_of_getElem? (i := 458) (by decide +kernel))) rfl
theorem kn_470 : Cond.methodLinkNest RX11 100 yX1_init "NamesAgain" ∈ xn := xn_in (List.mem_append_right _ (List.mem_of_getElem? (i := 470) (by decide +kernel))) rfl
theorem kn_475 : Cond.methodLinkNest RX1 9 yX7_init "NamesAgain" ∈ xn := xn_in (List.mem_append_right _ (List.mem_of_getElem? (i := 475) (by decide +kernel))) rfl
theorem kn_477 : Cond.methodLinkNest RX1 18 yX2_init "NamesAgain" ∈ xn := xn_in (List.mem_append_right _ (List.mem_of_getElem? (i := 477) (by decide +kernel))) rfl
theorem kn_479 : Cond.methodLinkNest RX1 27 yX5_init "NamesAgain" ∈ xn := xn_in (List.mem_append_right _ (List.mem_of_getElem? (i := 479) (by decide +kernel))) rfl
theorem kn_481 : Cond.fieldLinkNest RX11 358 RX1 "told" "LNamesAgain$Told;" "NamesAgain" ∈ xn := xn_in (List.mem_append_right _ (List.mem_of_getElem? (i := 481) (by decide +kernel))) rfl
theorem kn_483 : Cond.fieldLinkNest RX11 359 RX1 "life" "LNamesAgain$Life;" "NamesAgain" ∈ xn := xn_in (List.mem_append_right _ (List.mem_of_getElem? (i := 483) (by decide +kernel))) rfl
theorem kn_485 : Cond.fieldLinkNest RX11 360 RX1 "saying" "LNamesAgain$Sentence;" "NamesAgain" ∈ xn := xn_in (List.mem_append_right _ (List.mem_of_getElem? (i := 485) (by decide +kernel))) rfl
theorem kn_486 : Cond.fieldLinkNest RX11 361 RX1 "isKept" "Z" "NamesAgain" ∈ xn := xn_in (List.mem_append_right _ (List.mem_of_getElem? (i := 486) (by decide +kernel))) rfl
theorem kn_546 : Cond.methodLinkNest RX11 103 yX6_hasRoom "NamesAgain" ∈ xn := xn_in (List.mem_append_right _ (List.mem_of_getElem? (i := 546) (by decide +kernel))) rfl
theorem kn_550 : Cond.methodLinkNest RX11 107 yX6_put "NamesAgain" ∈ xn := xn_in (List.mem_append_right _ (List.mem_of_getElem? (i := 550) (by decide +kernel))) rfl
theorem kn_562 : Cond.methodLinkNest RX11 115 yX8_read "NamesAgain" ∈ xn := xn_in (List.mem_append_right _ (List.mem_of_getElem? (i := 562) (by decide +kernel))) rfl
theorem kn_566 : Cond.methodLinkNest RX8 19 yX7_clear "NamesAgain" ∈ xn := xn_in (List.mem_append_right _ (List.mem_of_getElem? (i := 566) (by decide +kernel))) rfl
theorem kn_570 : Cond.methodLinkNest RX8 24 yX6_startText "NamesAgain" ∈ xn := xn_in (List.mem_append_right _ (List.mem_of_getElem? (i := 570) (by decide +kernel))) rfl
theorem kn_699 : Cond.methodLinkNest RX11 128 yX7_copyFrom "NamesAgain" ∈ xn := xn_in (List.mem_append_right _ (List.mem_of_getElem? (i := 699) (by decide +kernel))) rfl
theorem kn_703 : Cond.methodLinkNest RX7 50 yX11_copyRow_ "NamesAgain" ∈ xn := xn_in (List.mem_append_right _ (List.mem_of_getElem? (i := 703) (by decide +kernel))) rfl
theorem kn_712 : Cond.methodLinkNest RX7 54 yX11_copyRow "NamesAgain" ∈ xn := xn_in (List.mem_append_right _ (List.mem_of_getElem? (i := 712) (by decide +kernel))) rfl
theorem kn_715 : Cond.methodLinkNest RX11 131 yX2_begin "NamesAgain" ∈ xn := xn_in (List.mem_append_right _ (List.mem_of_getElem? (i := 715) (by decide +kernel))) rfl
theorem kn_731 : Cond.methodLinkNest RX11 134 yX9_forget "NamesAgain" ∈ xn := xn_in (List.mem_append_right _ (List.mem_of_getElem? (i := 731) (by decide +kernel))) rfl
theorem kn_743 : Cond.methodLinkNest RX11 143 yX7_isName "NamesAgain" ∈ xn := xn_in (List.mem_append_right _ (List.mem_of_getElem? (i := 743) (by decide +kernel))) rfl
theorem kn_764 : Cond.methodLinkNest RX11 169 yX7_isSoul "NamesAgain" ∈ xn := xn_in (List.mem_append_right _ (List.mem_of_getElem? (i := 764) (by decide +kernel))) rfl
theorem kn_770 : Cond.methodLinkNest RX11 209 yX2_freeNames "NamesAgain" ∈ xn := xn_in (List.mem_append_right _ (List.mem_of_getElem? (i := 770) (by decide +kernel))) rfl
theorem kn_827 : Cond.methodLinkNest RX11 237 yX9_keep "NamesAgain" ∈ xn := xn_in (List.mem_append_right _ (List.mem_of_getElem? (i := 827) (by decide +kernel))) rfl
theorem kn_831 : Cond.methodLinkNest RX9 22 yX2_copyFrom "NamesAgain" ∈ xn := xn_in (List.mem_append_right _ (List.mem_of_getElem? (i := 831) (by decide +kernel))) rfl
theorem kn_835 : Cond.methodLinkNest RX2 95 yX11_copyRow "NamesAgain" ∈ xn := xn_in (List.mem_append_right _ (List.mem_of_getElem? (i := 835) (by decide +kernel))) rfl
theorem kn_836 : Cond.methodLinkNest RX2 99 yX11_copyRow_ "NamesAgain" ∈ xn := xn_in (List.mem_append_right _ (List.mem_of_getElem? (i := 836) (by decide +kernel))) rfl
theorem kn_932 : Cond.methodLinkNest RX11 253 yX2_passMondays "NamesAgain" ∈ xn := xn_in (List.mem_append_right _ (List.mem_of_getElem? (i := 932) (by decide +kernel))) rfl
theorem kn_937 : Cond.methodLinkNest RX11 256 yX9_takeBack "NamesAgain" ∈ xn := xn_in (List.mem_append_right _ (List.mem_of_getElem? (i := 937) (by decide +kernel))) rfl
theorem kn_97 : Cond.fieldLinkNest RX11 111 RX6 "length" "I" "NamesAgain" ∈ xn := xn_in (List.mem_append_right _ (List.mem_of_getElem? (i := 97) (by decide +kernel))) rfl
theorem kn_980 : Cond.methodLinkNest RX11 275 yX10_findMondays "NamesAgain" ∈ xn := xn_in (List.mem_append_right _ (List.mem_of_getElem? (i := 980) (by decide +kernel))) rfl
theorem ks_0 : Cond.selects RX6 yX6_keepOwn yX6_keepOwn ∈ xg := xg_in (List.mem_append_left _ (List.mem_of_getElem? (i := 0) (by decide +kernel))) rfl
theorem ks_1 : Cond.selects RX6 yX6_hasRoom yX6_hasRoom ∈ xg := xg_in (List.mem_append_left _ (List.mem_of_getElem? (i := 1) (by decide +kernel))) rfl
theorem ks_10 : Cond.selects RX6 yX6_refuse yX6_refuse ∈ xg := xg_in (List.mem_append_left _ (List.mem_of_getElem? (i := 10) (by decide +kernel))) rfl
theorem ks_100 : Cond.selects RX5 yX5_read yX5_read ∈ xg := xg_in (List.mem_append_left _ (List.mem_of_getElem? (i := 100) (by decide +kernel))) rfl
theorem ks_101 : Cond.selects RX5 yX5_readCond yX5_readCond ∈ xg := xg_in (List.mem_append_left _ (List.mem_of_getElem? (i := 101) (by decide +kernel))) rfl
theorem ks_102 : Cond.selects RX5 yX5_readAll yX5_readAll ∈ xg := xg_in (List.mem_append_left _ (List.mem_of_getElem? (i := 102) (by decide +kernel))) rfl
theorem ks_103 : Cond.selects RX5 yX5_readOne yX5_readOne ∈ xg := xg_in (List.mem_append_left _ (List.mem_of_getElem? (i := 103) (by decide +kernel))) rfl
theorem ks_104 : Cond.selects RX5 yX5_leafAhead yX5_leafAhead ∈ xg := xg_in (List.mem_append_left _ (List.mem_of_getElem? (i := 104) (by decide +kernel))) rfl
theorem ks_107 : Cond.selects RX5 yX5_copyFrom yX5_copyFrom ∈ xg := xg_in (List.mem_append_left _ (List.mem_of_getElem? (i := 107) (by decide +kernel))) rfl
theorem ks_114 : Cond.selects RX12 yX12_four yX12_four ∈ xg := xg_in (List.mem_append_left _ (List.mem_of_getElem? (i := 114) (by decide +kernel))) rfl
theorem ks_115 : Cond.selects RX12 yX12_taken yX12_taken ∈ xg := xg_in (List.mem_append_left _ (List.mem_of_getElem? (i := 115) (by decide +kernel))) rfl
theorem ks_116 : Cond.selects RX12 yX12_next yX12_next ∈ xg := xg_in (List.mem_append_left _ (List.mem_of_getElem? (i := 116) (by decide +kernel))) rfl
theorem ks_117 : Cond.selects RX12 yX12_peek yX12_peek ∈ xg := xg_in (List.mem_append_left _ (List.mem_of_getElem? (i := 117) (by decide +kernel))) rfl
theorem ks_119 : Cond.selects RX12 yX12_isWord yX12_isWord ∈ xg := xg_in (List.mem_append_left _ (List.mem_of_getElem? (i := 119) (by decide +kernel))) rfl
theorem ks_120 : Cond.selects RX12 yX12_bad yX12_bad ∈ xg := xg_in (List.mem_append_left _ (List.mem_of_getElem? (i := 120) (by decide +kernel))) rfl
theorem ks_129 : Cond.selects RX12 yX12_isSign yX12_isSign ∈ xg := xg_in (List.mem_append_left _ (List.mem_of_getElem? (i := 129) (by decide +kernel))) rfl
theorem ks_131 : Cond.selects RX12 yX12_isNameOf yX12_isNameOf ∈ xg := xg_in (List.mem_append_left _ (List.mem_of_getElem? (i := 131) (by decide +kernel))) rfl
theorem ks_135 : Cond.selects RX12 yX12_isSoul yX12_isSoul ∈ xg := xg_in (List.mem_append_left _ (List.mem_of_getElem? (i := 135) (by decide +kernel))) rfl
theorem ks_136 : Cond.selects RX12 yX12_throwsIf yX12_throwsIf ∈ xg := xg_in (List.mem_append_left _ (List.mem_of_getElem? (i := 136) (by decide +kernel))) rfl
theorem ks_139 : Cond.selects RX12 yX12_freeNames yX12_freeNames ∈ xg := xg_in (List.mem_append_left _ (List.mem_of_getElem? (i := 139) (by decide +kernel))) rfl
theorem ks_140 : Cond.selects RX12 yX12_sum yX12_sum ∈ xg := xg_in (List.mem_append_left _ (List.mem_of_getElem? (i := 140) (by decide +kernel))) rfl
theorem ks_142 : Cond.selects RX12 yX12_keep yX12_keep ∈ xg := xg_in (List.mem_append_left _ (List.mem_of_getElem? (i := 142) (by decide +kernel))) rfl
theorem ks_146 : Cond.selects RX12 yX12_areTwo yX12_areTwo ∈ xg := xg_in (List.mem_append_left _ (List.mem_of_getElem? (i := 146) (by decide +kernel))) rfl
theorem ks_158 : Cond.selects RX12 yX12_goes yX12_goes ∈ xg := xg_in (List.mem_append_left _ (List.mem_of_getElem? (i := 158) (by decide +kernel))) rfl
theorem ks_159 : Cond.selects RX12 yX12_monday yX12_monday ∈ xg := xg_in (List.mem_append_left _ (List.mem_of_getElem? (i := 159) (by decide +kernel))) rfl
theorem ks_163 : Cond.selects RX12 yX12_canBe yX12_canBe ∈ xg := xg_in (List.mem_append_left _ (List.mem_of_getElem? (i := 163) (by decide +kernel))) rfl
theorem ks_169 : Cond.selects RX12 yX12_hasEnough yX12_hasEnough ∈ xg := xg_in (List.mem_append_left _ (List.mem_of_getElem? (i := 169) (by decide +kernel))) rfl
theorem ks_170 : Cond.selects RX12 yX12_waitSet yX12_waitSet ∈ xg := xg_in (List.mem_append_left _ (List.mem_of_getElem? (i := 170) (by decide +kernel))) rfl
theorem ks_171 : Cond.selects RX12 yX12_calledSet yX12_calledSet ∈ xg := xg_in (List.mem_append_left _ (List.mem_of_getElem? (i := 171) (by decide +kernel))) rfl
theorem ks_175 : Cond.selects RX12 yX12_tries yX12_tries ∈ xg := xg_in (List.mem_append_left _ (List.mem_of_getElem? (i := 175) (by decide +kernel))) rfl
theorem ks_176 : Cond.selects RX12 yX12_back yX12_back ∈ xg := xg_in (List.mem_append_left _ (List.mem_of_getElem? (i := 176) (by decide +kernel))) rfl
theorem ks_184 : Cond.selects RX12 yX12_operand yX12_operand ∈ xg := xg_in (List.mem_append_left _ (List.mem_of_getElem? (i := 184) (by decide +kernel))) rfl
theorem ks_185 : Cond.selects RX12 yX12_leafOf yX12_leafOf ∈ xg := xg_in (List.mem_append_left _ (List.mem_of_getElem? (i := 185) (by decide +kernel))) rfl
theorem ks_2 : Cond.selects RX6 yX6_put yX6_put ∈ xg := xg_in (List.mem_append_left _ (List.mem_of_getElem? (i := 2) (by decide +kernel))) rfl
theorem ks_25 : Cond.selects RX7 yX7_isSoul yX7_isSoul ∈ xg := xg_in (List.mem_append_left _ (List.mem_of_getElem? (i := 25) (by decide +kernel))) rfl
theorem ks_29 : Cond.selects RX7 yX7_isName yX7_isName ∈ xg := xg_in (List.mem_append_left _ (List.mem_of_getElem? (i := 29) (by decide +kernel))) rfl
theorem ks_3 : Cond.selects RX8 yX8_read yX8_read ∈ xg := xg_in (List.mem_append_left _ (List.mem_of_getElem? (i := 3) (by decide +kernel))) rfl
theorem ks_32 : Cond.selects RX6 yX6_isSign yX6_isSign ∈ xg := xg_in (List.mem_append_left _ (List.mem_of_getElem? (i := 32) (by decide +kernel))) rfl
theorem ks_33 : Cond.selects RX7 yX7_copyFrom yX7_copyFrom ∈ xg := xg_in (List.mem_append_left _ (List.mem_of_getElem? (i := 33) (by decide +kernel))) rfl
theorem ks_34 : Cond.selects RX2 yX2_begin yX2_begin ∈ xg := xg_in (List.mem_append_left _ (List.mem_of_getElem? (i := 34) (by decide +kernel))) rfl
theorem ks_37 : Cond.selects RX9 yX9_forget yX9_forget ∈ xg := xg_in (List.mem_append_left _ (List.mem_of_getElem? (i := 37) (by decide +kernel))) rfl
theorem ks_4 : Cond.selects RX7 yX7_clear yX7_clear ∈ xg := xg_in (List.mem_append_left _ (List.mem_of_getElem? (i := 4) (by decide +kernel))) rfl
theorem ks_41 : Cond.selects RX2 yX2_freeNames yX2_freeNames ∈ xg := xg_in (List.mem_append_left _ (List.mem_of_getElem? (i := 41) (by decide +kernel))) rfl
theorem ks_5 : Cond.selects RX6 yX6_startText yX6_startText ∈ xg := xg_in (List.mem_append_left _ (List.mem_of_getElem? (i := 5) (by decide +kernel))) rfl
theorem ks_53 : Cond.selects RX9 yX9_keep yX9_keep ∈ xg := xg_in (List.mem_append_left _ (List.mem_of_getElem? (i := 53) (by decide +kernel))) rfl
theorem ks_54 : Cond.selects RX2 yX2_copyFrom yX2_copyFrom ∈ xg := xg_in (List.mem_append_left _ (List.mem_of_getElem? (i := 54) (by decide +kernel))) rfl
theorem ks_6 : Cond.selects RX6 yX6_advance yX6_advance ∈ xg := xg_in (List.mem_append_left _ (List.mem_of_getElem? (i := 6) (by decide +kernel))) rfl
theorem ks_63 : Cond.selects RX2 yX2_passMondays yX2_passMondays ∈ xg := xg_in (List.mem_append_left _ (List.mem_of_getElem? (i := 63) (by decide +kernel))) rfl
theorem ks_64 : Cond.selects RX2 yX2_endMonday yX2_endMonday ∈ xg := xg_in (List.mem_append_left _ (List.mem_of_getElem? (i := 64) (by decide +kernel))) rfl
theorem ks_68 : Cond.selects RX11 yX11_areTwo yX11_areTwo ∈ xg := xg_in (List.mem_append_left _ (List.mem_of_getElem? (i := 68) (by decide +kernel))) rfl
theorem ks_71 : Cond.selects RX9 yX9_takeBack yX9_takeBack ∈ xg := xg_in (List.mem_append_left _ (List.mem_of_getElem? (i := 71) (by decide +kernel))) rfl
theorem ks_76 : Cond.selects RX10 yX10_findMondays yX10_findMondays ∈ xg := xg_in (List.mem_append_left _ (List.mem_of_getElem? (i := 76) (by decide +kernel))) rfl
theorem ks_77 : Cond.selects RX10 yX10_point yX10_point ∈ xg := xg_in (List.mem_append_left _ (List.mem_of_getElem? (i := 77) (by decide +kernel))) rfl
theorem ks_8 : Cond.selects RX6 yX6_isWord yX6_isWord ∈ xg := xg_in (List.mem_append_left _ (List.mem_of_getElem? (i := 8) (by decide +kernel))) rfl
theorem ks_80 : Cond.selects RX10 yX10_findSwaps yX10_findSwaps ∈ xg := xg_in (List.mem_append_left _ (List.mem_of_getElem? (i := 80) (by decide +kernel))) rfl
theorem ks_84 : Cond.selects RX11 yX11_isLedger yX11_isLedger ∈ xg := xg_in (List.mem_append_left _ (List.mem_of_getElem? (i := 84) (by decide +kernel))) rfl
theorem ks_87 : Cond.selects RX2 yX2_hasVotes yX2_hasVotes ∈ xg := xg_in (List.mem_append_left _ (List.mem_of_getElem? (i := 87) (by decide +kernel))) rfl
theorem ks_95 : Cond.selects RX4 yX4_read yX4_read ∈ xg := xg_in (List.mem_append_left _ (List.mem_of_getElem? (i := 95) (by decide +kernel))) rfl
theorem ks_99 : Cond.selects RX4 yX4_judge yX4_judge ∈ xg := xg_in (List.mem_append_left _ (List.mem_of_getElem? (i := 99) (by decide +kernel))) rfl
theorem kw_1 : Cond.initialized RX11 ∈ xg := xg_in (List.mem_append_right _ (List.mem_of_getElem? (i := 1) (by decide +kernel))) rfl
theorem kw_10 : Cond.initialized RX9 ∈ xg := xg_in (List.mem_append_right _ (List.mem_of_getElem? (i := 10) (by decide +kernel))) rfl
theorem kw_100 : Cond.fieldLink RX6 48 RX6 "at" "I" ∈ xg := xg_in (List.mem_append_right _ (List.mem_of_getElem? (i := 100) (by decide +kernel))) rfl
theorem kw_1006 : Cond.instanceMethod yX10_findSwaps ∈ xg := xg_in (List.mem_append_right _ (List.mem_of_getElem? (i := 1006) (by decide +kernel))) rfl
theorem kw_1007 : Cond.code yX10_findSwaps cX10_findSwaps 3 (some .int) ∈ xg := xg_in (List.mem_append_right _ (List.mem_of_getElem? (i := 1007) (by decide +kernel))) rfl
theorem kw_104 : Cond.fieldLink RX6 60 RX6 "kind" "I" ∈ xg := xg_in (List.mem_append_right _ (List.mem_of_getElem? (i := 104) (by decide +kernel))) rfl
theorem kw_1043 : Cond.methodLink RX11 293 yX11_isLedger ∈ xg := xg_in (List.mem_append_right _ (List.mem_of_getElem? (i := 1043) (by decide +kernel))) rfl
theorem kw_1045 : Cond.instanceMethod yX11_isLedger ∈ xg := xg_in (List.mem_append_right _ (List.mem_of_getElem? (i := 1045) (by decide +kernel))) rfl
theorem kw_1046 : Cond.code yX11_isLedger cX11_isLedger 4 (some .boolean) ∈ xg := xg_in (List.mem_append_right _ (List.mem_of_getElem? (i := 1046) (by decide +kernel))) rfl
theorem kw_105 : Cond.fieldLink RX6 63 RX6 "place" "I" ∈ xg := xg_in (List.mem_append_right _ (List.mem_of_getElem? (i := 105) (by decide +kernel))) rfl
theorem kw_1061 : Cond.instanceMethod yX2_hasVotes ∈ xg := xg_in (List.mem_append_right _ (List.mem_of_getElem? (i := 1061) (by decide +kernel))) rfl
theorem kw_1062 : Cond.code yX2_hasVotes cX2_hasVotes 6 (some .boolean) ∈ xg := xg_in (List.mem_append_right _ (List.mem_of_getElem? (i := 1062) (by decide +kernel))) rfl
theorem kw_11 : Cond.initialized RX4 ∈ xg := xg_in (List.mem_append_right _ (List.mem_of_getElem? (i := 11) (by decide +kernel))) rfl
theorem kw_1139 : Cond.instanceMethod yX4_read ∈ xg := xg_in (List.mem_append_right _ (List.mem_of_getElem? (i := 1139) (by decide +kernel))) rfl
theorem kw_1140 : Cond.code yX4_read cX4_read 2 (some .boolean) ∈ xg := xg_in (List.mem_append_right _ (List.mem_of_getElem? (i := 1140) (by decide +kernel))) rfl
theorem kw_1173 : Cond.instanceMethod yX4_judge ∈ xg := xg_in (List.mem_append_right _ (List.mem_of_getElem? (i := 1173) (by decide +kernel))) rfl
theorem kw_1174 : Cond.code yX4_judge cX4_judge 4 (some .int) ∈ xg := xg_in (List.mem_append_right _ (List.mem_of_getElem? (i := 1174) (by decide +kernel))) rfl
theorem kw_118 : Cond.fieldLink RX6 51 RX6 "faultKind" "I" ∈ xg := xg_in (List.mem_append_right _ (List.mem_of_getElem? (i := 118) (by decide +kernel))) rfl
theorem kw_1187 : Cond.instanceMethod yX5_read ∈ xg := xg_in (List.mem_append_right _ (List.mem_of_getElem? (i := 1187) (by decide +kernel))) rfl
theorem kw_1188 : Cond.code yX5_read cX5_read 1 (some .boolean) ∈ xg := xg_in (List.mem_append_right _ (List.mem_of_getElem? (i := 1188) (by decide +kernel))) rfl
theorem kw_1190 : Cond.methodLink RX5 49 yX5_readCond ∈ xg := xg_in (List.mem_append_right _ (List.mem_of_getElem? (i := 1190) (by decide +kernel))) rfl
theorem kw_1192 : Cond.instanceMethod yX5_readCond ∈ xg := xg_in (List.mem_append_right _ (List.mem_of_getElem? (i := 1192) (by decide +kernel))) rfl
theorem kw_1193 : Cond.code yX5_readCond cX5_readCond 4 (some .boolean) ∈ xg := xg_in (List.mem_append_right _ (List.mem_of_getElem? (i := 1193) (by decide +kernel))) rfl
theorem kw_1194 : Cond.methodLink RX5 59 yX5_readAll ∈ xg := xg_in (List.mem_append_right _ (List.mem_of_getElem? (i := 1194) (by decide +kernel))) rfl
theorem kw_1196 : Cond.instanceMethod yX5_readAll ∈ xg := xg_in (List.mem_append_right _ (List.mem_of_getElem? (i := 1196) (by decide +kernel))) rfl
theorem kw_1197 : Cond.code yX5_readAll cX5_readAll 4 (some .boolean) ∈ xg := xg_in (List.mem_append_right _ (List.mem_of_getElem? (i := 1197) (by decide +kernel))) rfl
theorem kw_1198 : Cond.methodLink RX5 75 yX5_readOne ∈ xg := xg_in (List.mem_append_right _ (List.mem_of_getElem? (i := 1198) (by decide +kernel))) rfl
theorem kw_12 : Cond.initialized RX5 ∈ xg := xg_in (List.mem_append_right _ (List.mem_of_getElem? (i := 12) (by decide +kernel))) rfl
theorem kw_120 : Cond.fieldLink RX6 54 RX6 "faultPlace" "I" ∈ xg := xg_in (List.mem_append_right _ (List.mem_of_getElem? (i := 120) (by decide +kernel))) rfl
theorem kw_1200 : Cond.instanceMethod yX5_readOne ∈ xg := xg_in (List.mem_append_right _ (List.mem_of_getElem? (i := 1200) (by decide +kernel))) rfl
theorem kw_1201 : Cond.code yX5_readOne cX5_readOne 5 (some .boolean) ∈ xg := xg_in (List.mem_append_right _ (List.mem_of_getElem? (i := 1201) (by decide +kernel))) rfl
theorem kw_1202 : Cond.methodLink RX5 80 yX5_leafAhead ∈ xg := xg_in (List.mem_append_right _ (List.mem_of_getElem? (i := 1202) (by decide +kernel))) rfl
theorem kw_1204 : Cond.instanceMethod yX5_leafAhead ∈ xg := xg_in (List.mem_append_right _ (List.mem_of_getElem? (i := 1204) (by decide +kernel))) rfl
theorem kw_1205 : Cond.code yX5_leafAhead cX5_leafAhead 1 (some .int) ∈ xg := xg_in (List.mem_append_right _ (List.mem_of_getElem? (i := 1205) (by decide +kernel))) rfl
theorem kw_1236 : Cond.instanceMethod yX5_copyFrom ∈ xg := xg_in (List.mem_append_right _ (List.mem_of_getElem? (i := 1236) (by decide +kernel))) rfl
theorem kw_1237 : Cond.code yX5_copyFrom cX5_copyFrom 2 none ∈ xg := xg_in (List.mem_append_right _ (List.mem_of_getElem? (i := 1237) (by decide +kernel))) rfl
theorem kw_13 : Cond.initialized RX10 ∈ xg := xg_in (List.mem_append_right _ (List.mem_of_getElem? (i := 13) (by decide +kernel))) rfl
theorem kw_1366 : Cond.methodLink RX12 10 yX12_four ∈ xg := xg_in (List.mem_append_right _ (List.mem_of_getElem? (i := 1366) (by decide +kernel))) rfl
theorem kw_1368 : Cond.instanceMethod yX12_four ∈ xg := xg_in (List.mem_append_right _ (List.mem_of_getElem? (i := 1368) (by decide +kernel))) rfl
theorem kw_1370 : Cond.code yX12_four cX12_four 3 none ∈ xg := xg_in (List.mem_append_right _ (List.mem_of_getElem? (i := 1370) (by decide +kernel))) rfl
theorem kw_1379 : Cond.methodLink RX12 27 objectInit ∈ xg := xg_in (List.mem_append_right _ (List.mem_of_getElem? (i := 1379) (by decide +kernel))) rfl
theorem kw_1380 : Cond.constantLong RX12 81 (1851878757) ∈ xg := xg_in (List.mem_append_right _ (List.mem_of_getElem? (i := 1380) (by decide +kernel))) rfl
theorem kw_1381 : Cond.constantLong RX12 83 (1684365940) ∈ xg := xg_in (List.mem_append_right _ (List.mem_of_getElem? (i := 1381) (by decide +kernel))) rfl
theorem kw_1382 : Cond.constantLong RX12 85 (439787549556) ∈ xg := xg_in (List.mem_append_right _ (List.mem_of_getElem? (i := 1382) (by decide +kernel))) rfl
theorem kw_1383 : Cond.constantLong RX12 87 (1936684396) ∈ xg := xg_in (List.mem_append_right _ (List.mem_of_getElem? (i := 1383) (by decide +kernel))) rfl
theorem kw_1384 : Cond.constantLong RX12 89 (109270082020708) ∈ xg := xg_in (List.mem_append_right _ (List.mem_of_getElem? (i := 1384) (by decide +kernel))) rfl
theorem kw_1385 : Cond.constantLong RX12 91 (2003399528) ∈ xg := xg_in (List.mem_append_right _ (List.mem_of_getElem? (i := 1385) (by decide +kernel))) rfl
theorem kw_1386 : Cond.constantLong RX12 93 (512970880104) ∈ xg := xg_in (List.mem_append_right _ (List.mem_of_getElem? (i := 1386) (by decide +kernel))) rfl
theorem kw_1387 : Cond.constantLong RX12 95 (7302244) ∈ xg := xg_in (List.mem_append_right _ (List.mem_of_getElem? (i := 1387) (by decide +kernel))) rfl
theorem kw_1388 : Cond.constantLong RX12 97 (499850634611) ∈ xg := xg_in (List.mem_append_right _ (List.mem_of_getElem? (i := 1388) (by decide +kernel))) rfl
theorem kw_1389 : Cond.constantLong RX12 99 (495924113523) ∈ xg := xg_in (List.mem_append_right _ (List.mem_of_getElem? (i := 1389) (by decide +kernel))) rfl
theorem kw_1390 : Cond.constantLong RX12 101 (495622843507) ∈ xg := xg_in (List.mem_append_right _ (List.mem_of_getElem? (i := 1390) (by decide +kernel))) rfl
theorem kw_1391 : Cond.constantLong RX12 103 (1684628851) ∈ xg := xg_in (List.mem_append_right _ (List.mem_of_getElem? (i := 1391) (by decide +kernel))) rfl
theorem kw_1392 : Cond.constantLong RX12 105 (448311224179) ∈ xg := xg_in (List.mem_append_right _ (List.mem_of_getElem? (i := 1392) (by decide +kernel))) rfl
theorem kw_1393 : Cond.constantLong RX12 107 (439905248627) ∈ xg := xg_in (List.mem_append_right _ (List.mem_of_getElem? (i := 1393) (by decide +kernel))) rfl
theorem kw_1394 : Cond.constantLong RX12 109 (1885436275) ∈ xg := xg_in (List.mem_append_right _ (List.mem_of_getElem? (i := 1394) (by decide +kernel))) rfl
theorem kw_1395 : Cond.constantLong RX12 111 (120325360869753) ∈ xg := xg_in (List.mem_append_right _ (List.mem_of_getElem? (i := 1395) (by decide +kernel))) rfl
theorem kw_1396 : Cond.constantLong RX12 113 (28530) ∈ xg := xg_in (List.mem_append_right _ (List.mem_of_getElem? (i := 1396) (by decide +kernel))) rfl
theorem kw_1397 : Cond.constantLong RX12 115 (6385252) ∈ xg := xg_in (List.mem_append_right _ (List.mem_of_getElem? (i := 1397) (by decide +kernel))) rfl
theorem kw_1398 : Cond.constantLong RX12 117 (7237492) ∈ xg := xg_in (List.mem_append_right _ (List.mem_of_getElem? (i := 1398) (by decide +kernel))) rfl
theorem kw_1399 : Cond.constantLong RX12 119 (418430678629) ∈ xg := xg_in (List.mem_append_right _ (List.mem_of_getElem? (i := 1399) (by decide +kernel))) rfl
theorem kw_14 : Cond.initialized RX3 ∈ xg := xg_in (List.mem_append_right _ (List.mem_of_getElem? (i := 14) (by decide +kernel))) rfl
theorem kw_1400 : Cond.constantLong RX12 121 (512735409267) ∈ xg := xg_in (List.mem_append_right _ (List.mem_of_getElem? (i := 1400) (by decide +kernel))) rfl
theorem kw_1401 : Cond.constantLong RX12 123 (1718379876) ∈ xg := xg_in (List.mem_append_right _ (List.mem_of_getElem? (i := 1401) (by decide +kernel))) rfl
theorem kw_1402 : Cond.constantLong RX12 125 (1735156068) ∈ xg := xg_in (List.mem_append_right _ (List.mem_of_getElem? (i := 1402) (by decide +kernel))) rfl
theorem kw_1403 : Cond.constantLong RX12 127 (483006772069) ∈ xg := xg_in (List.mem_append_right _ (List.mem_of_getElem? (i := 1403) (by decide +kernel))) rfl
theorem kw_1404 : Cond.constantLong RX12 129 (1870095731) ∈ xg := xg_in (List.mem_append_right _ (List.mem_of_getElem? (i := 1404) (by decide +kernel))) rfl
theorem kw_1405 : Cond.constantLong RX12 131 (112585612686451) ∈ xg := xg_in (List.mem_append_right _ (List.mem_of_getElem? (i := 1405) (by decide +kernel))) rfl
theorem kw_1406 : Cond.constantLong RX12 133 (121450625394034) ∈ xg := xg_in (List.mem_append_right _ (List.mem_of_getElem? (i := 1406) (by decide +kernel))) rfl
theorem kw_1407 : Cond.fieldLink RX12 1 RX12 "thrown" "I" ∈ xg := xg_in (List.mem_append_right _ (List.mem_of_getElem? (i := 1407) (by decide +kernel))) rfl
theorem kw_1408 : Cond.fieldLink RX12 14 RX12 "tape" "[B" ∈ xg := xg_in (List.mem_append_right _ (List.mem_of_getElem? (i := 1408) (by decide +kernel))) rfl
theorem kw_1409 : Cond.fieldLink RX12 7 RX12 "length" "I" ∈ xg := xg_in (List.mem_append_right _ (List.mem_of_getElem? (i := 1409) (by decide +kernel))) rfl
theorem kw_1410 : Cond.fieldLink RX12 18 RX12 "size" "I" ∈ xg := xg_in (List.mem_append_right _ (List.mem_of_getElem? (i := 1410) (by decide +kernel))) rfl
theorem kw_1411 : Cond.fieldLink RX12 21 RX12 "p" "I" ∈ xg := xg_in (List.mem_append_right _ (List.mem_of_getElem? (i := 1411) (by decide +kernel))) rfl
theorem kw_1412 : Cond.fieldLink RX12 24 RX12 "limit" "I" ∈ xg := xg_in (List.mem_append_right _ (List.mem_of_getElem? (i := 1412) (by decide +kernel))) rfl
theorem kw_1413 : Cond.fieldLink RX12 33 RX12 "s" "[I" ∈ xg := xg_in (List.mem_append_right _ (List.mem_of_getElem? (i := 1413) (by decide +kernel))) rfl
theorem kw_1414 : Cond.fieldLink RX12 37 RX12 "h" "[I" ∈ xg := xg_in (List.mem_append_right _ (List.mem_of_getElem? (i := 1414) (by decide +kernel))) rfl
theorem kw_1415 : Cond.fieldLink RX12 40 RX12 "read" "[I" ∈ xg := xg_in (List.mem_append_right _ (List.mem_of_getElem? (i := 1415) (by decide +kernel))) rfl
theorem kw_1416 : Cond.fieldLink RX12 43 RX12 "names" "[J" ∈ xg := xg_in (List.mem_append_right _ (List.mem_of_getElem? (i := 1416) (by decide +kernel))) rfl
theorem kw_1417 : Cond.fieldLink RX12 47 RX12 "reserved" "[J" ∈ xg := xg_in (List.mem_append_right _ (List.mem_of_getElem? (i := 1417) (by decide +kernel))) rfl
theorem kw_1418 : Cond.fieldLink RX12 145 RX12 "token" "I" ∈ xg := xg_in (List.mem_append_right _ (List.mem_of_getElem? (i := 1418) (by decide +kernel))) rfl
theorem kw_1419 : Cond.fieldLink RX12 139 RX12 "at" "I" ∈ xg := xg_in (List.mem_append_right _ (List.mem_of_getElem? (i := 1419) (by decide +kernel))) rfl
theorem kw_1420 : Cond.fieldLink RX12 142 RX12 "span" "I" ∈ xg := xg_in (List.mem_append_right _ (List.mem_of_getElem? (i := 1420) (by decide +kernel))) rfl
theorem kw_1422 : Cond.fieldLink RX12 162 RX12 "fault" "I" ∈ xg := xg_in (List.mem_append_right _ (List.mem_of_getElem? (i := 1422) (by decide +kernel))) rfl
theorem kw_1423 : Cond.fieldLink RX12 165 RX12 "faultAt" "I" ∈ xg := xg_in (List.mem_append_right _ (List.mem_of_getElem? (i := 1423) (by decide +kernel))) rfl
theorem kw_1426 : Cond.fieldLink RX12 221 RX12 "lines" "I" ∈ xg := xg_in (List.mem_append_right _ (List.mem_of_getElem? (i := 1426) (by decide +kernel))) rfl
theorem kw_1427 : Cond.fieldLink RX12 212 RX12 "onces" "I" ∈ xg := xg_in (List.mem_append_right _ (List.mem_of_getElem? (i := 1427) (by decide +kernel))) rfl
theorem kw_1428 : Cond.fieldLink RX12 50 RX12 "undone" "[I" ∈ xg := xg_in (List.mem_append_right _ (List.mem_of_getElem? (i := 1428) (by decide +kernel))) rfl
theorem kw_1429 : Cond.fieldLink RX12 53 RX12 "before" "[I" ∈ xg := xg_in (List.mem_append_right _ (List.mem_of_getElem? (i := 1429) (by decide +kernel))) rfl
theorem kw_1430 : Cond.fieldLink RX12 233 RX12 "undoMany" "I" ∈ xg := xg_in (List.mem_append_right _ (List.mem_of_getElem? (i := 1430) (by decide +kernel))) rfl
theorem kw_1431 : Cond.fieldLink RX12 56 RX12 "with" "[I" ∈ xg := xg_in (List.mem_append_right _ (List.mem_of_getElem? (i := 1431) (by decide +kernel))) rfl
theorem kw_1432 : Cond.fieldLink RX12 59 RX12 "withSouls" "I" ∈ xg := xg_in (List.mem_append_right _ (List.mem_of_getElem? (i := 1432) (by decide +kernel))) rfl
theorem kw_1436 : Cond.fieldLink RX12 381 RX12 "hasCheapest" "Z" ∈ xg := xg_in (List.mem_append_right _ (List.mem_of_getElem? (i := 1436) (by decide +kernel))) rfl
theorem kw_1438 : Cond.fieldLink RX12 401 RX12 "told" "I" ∈ xg := xg_in (List.mem_append_right _ (List.mem_of_getElem? (i := 1438) (by decide +kernel))) rfl
theorem kw_1439 : Cond.fieldLink RX12 62 RX12 "rolledAt" "[I" ∈ xg := xg_in (List.mem_append_right _ (List.mem_of_getElem? (i := 1439) (by decide +kernel))) rfl
theorem kw_1440 : Cond.fieldLink RX12 415 RX12 "hasRolled" "Z" ∈ xg := xg_in (List.mem_append_right _ (List.mem_of_getElem? (i := 1440) (by decide +kernel))) rfl
theorem kw_1441 : Cond.fieldLink RX12 65 RX12 "stack" "[I" ∈ xg := xg_in (List.mem_append_right _ (List.mem_of_getElem? (i := 1441) (by decide +kernel))) rfl
theorem kw_1442 : Cond.fieldLink RX12 418 RX12 "codes" "I" ∈ xg := xg_in (List.mem_append_right _ (List.mem_of_getElem? (i := 1442) (by decide +kernel))) rfl
theorem kw_1443 : Cond.fieldLink RX12 433 RX12 "ones" "I" ∈ xg := xg_in (List.mem_append_right _ (List.mem_of_getElem? (i := 1443) (by decide +kernel))) rfl
theorem kw_1444 : Cond.fieldLink RX12 421 RX12 "top" "I" ∈ xg := xg_in (List.mem_append_right _ (List.mem_of_getElem? (i := 1444) (by decide +kernel))) rfl
theorem kw_1445 : Cond.fieldLink RX12 427 RX12 "deep" "I" ∈ xg := xg_in (List.mem_append_right _ (List.mem_of_getElem? (i := 1445) (by decide +kernel))) rfl
theorem kw_1446 : Cond.fieldLink RX12 436 RX12 "isWhole" "Z" ∈ xg := xg_in (List.mem_append_right _ (List.mem_of_getElem? (i := 1446) (by decide +kernel))) rfl
theorem kw_1447 : Cond.fieldLink RX12 68 RX12 "truths" "[Z" ∈ xg := xg_in (List.mem_append_right _ (List.mem_of_getElem? (i := 1447) (by decide +kernel))) rfl
theorem kw_1448 : Cond.fieldLink RX12 72 RX12 "kept" "[I" ∈ xg := xg_in (List.mem_append_right _ (List.mem_of_getElem? (i := 1448) (by decide +kernel))) rfl
theorem kw_1449 : Cond.fieldLink RX12 75 RX12 "namesKept" "[J" ∈ xg := xg_in (List.mem_append_right _ (List.mem_of_getElem? (i := 1449) (by decide +kernel))) rfl
theorem kw_1450 : Cond.fieldLink RX12 78 RX12 "areKept" "[Z" ∈ xg := xg_in (List.mem_append_right _ (List.mem_of_getElem? (i := 1450) (by decide +kernel))) rfl
theorem kw_15 : Cond.initialized RX0 ∈ xg := xg_in (List.mem_append_right _ (List.mem_of_getElem? (i := 15) (by decide +kernel))) rfl
theorem kw_150 : Cond.arrayClass .byte ∈ xg := xg_in (List.mem_append_right _ (List.mem_of_getElem? (i := 150) (by decide +kernel))) rfl
theorem kw_151 : Cond.arrayClass .long ∈ xg := xg_in (List.mem_append_right _ (List.mem_of_getElem? (i := 151) (by decide +kernel))) rfl
theorem kw_152 : Cond.classLink RX11 16 RX7 ∈ xg := xg_in (List.mem_append_right _ (List.mem_of_getElem? (i := 152) (by decide +kernel))) rfl
theorem kw_153 : Cond.instantiable RX7 12 ∈ xg := xg_in (List.mem_append_right _ (List.mem_of_getElem? (i := 153) (by decide +kernel))) rfl
theorem kw_1540 : Cond.arrayClass .boolean ∈ xg := xg_in (List.mem_append_right _ (List.mem_of_getElem? (i := 1540) (by decide +kernel))) rfl
theorem kw_1545 : Cond.methodLink RX12 218 yX12_taken ∈ xg := xg_in (List.mem_append_right _ (List.mem_of_getElem? (i := 1545) (by decide +kernel))) rfl
theorem kw_1547 : Cond.instanceMethod yX12_taken ∈ xg := xg_in (List.mem_append_right _ (List.mem_of_getElem? (i := 1547) (by decide +kernel))) rfl
theorem kw_1548 : Cond.code yX12_taken cX12_taken 2 none ∈ xg := xg_in (List.mem_append_right _ (List.mem_of_getElem? (i := 1548) (by decide +kernel))) rfl
theorem kw_1549 : Cond.methodLink RX12 174 yX12_next ∈ xg := xg_in (List.mem_append_right _ (List.mem_of_getElem? (i := 1549) (by decide +kernel))) rfl
theorem kw_155 : Cond.instanceMethod yX7_init ∈ xg := xg_in (List.mem_append_right _ (List.mem_of_getElem? (i := 155) (by decide +kernel))) rfl
theorem kw_1551 : Cond.instanceMethod yX12_next ∈ xg := xg_in (List.mem_append_right _ (List.mem_of_getElem? (i := 1551) (by decide +kernel))) rfl
theorem kw_1552 : Cond.code yX12_next cX12_next 4 none ∈ xg := xg_in (List.mem_append_right _ (List.mem_of_getElem? (i := 1552) (by decide +kernel))) rfl
theorem kw_1553 : Cond.methodLink RX12 135 yX12_peek ∈ xg := xg_in (List.mem_append_right _ (List.mem_of_getElem? (i := 1553) (by decide +kernel))) rfl
theorem kw_1555 : Cond.instanceMethod yX12_peek ∈ xg := xg_in (List.mem_append_right _ (List.mem_of_getElem? (i := 1555) (by decide +kernel))) rfl
theorem kw_1556 : Cond.code yX12_peek cX12_peek 1 (some .int) ∈ xg := xg_in (List.mem_append_right _ (List.mem_of_getElem? (i := 1556) (by decide +kernel))) rfl
theorem kw_156 : Cond.code yX7_init cX7_init 1 none ∈ xg := xg_in (List.mem_append_right _ (List.mem_of_getElem? (i := 156) (by decide +kernel))) rfl
theorem kw_1567 : Cond.methodLink RX12 196 yX12_isWord ∈ xg := xg_in (List.mem_append_right _ (List.mem_of_getElem? (i := 1567) (by decide +kernel))) rfl
theorem kw_1569 : Cond.instanceMethod yX12_isWord ∈ xg := xg_in (List.mem_append_right _ (List.mem_of_getElem? (i := 1569) (by decide +kernel))) rfl
theorem kw_157 : Cond.methodLink RX7 3 objectInit ∈ xg := xg_in (List.mem_append_right _ (List.mem_of_getElem? (i := 157) (by decide +kernel))) rfl
theorem kw_1570 : Cond.code yX12_isWord cX12_isWord 3 (some .boolean) ∈ xg := xg_in (List.mem_append_right _ (List.mem_of_getElem? (i := 1570) (by decide +kernel))) rfl
theorem kw_1571 : Cond.methodLink RX12 171 yX12_bad ∈ xg := xg_in (List.mem_append_right _ (List.mem_of_getElem? (i := 1571) (by decide +kernel))) rfl
theorem kw_1573 : Cond.instanceMethod yX12_bad ∈ xg := xg_in (List.mem_append_right _ (List.mem_of_getElem? (i := 1573) (by decide +kernel))) rfl
theorem kw_1574 : Cond.code yX12_bad cX12_bad 2 (some .boolean) ∈ xg := xg_in (List.mem_append_right _ (List.mem_of_getElem? (i := 1574) (by decide +kernel))) rfl
theorem kw_158 : Cond.fieldLink RX7 43 RX7 "names" "I" ∈ xg := xg_in (List.mem_append_right _ (List.mem_of_getElem? (i := 158) (by decide +kernel))) rfl
theorem kw_1595 : Cond.methodLink RX12 177 yX12_isIn ∈ xg := xg_in (List.mem_append_right _ (List.mem_of_getElem? (i := 1595) (by decide +kernel))) rfl
theorem kw_1596 : Cond.static yX12_isIn ∈ xg := xg_in (List.mem_append_right _ (List.mem_of_getElem? (i := 1596) (by decide +kernel))) rfl
theorem kw_1597 : Cond.code yX12_isIn cX12_isIn 3 (some .boolean) ∈ xg := xg_in (List.mem_append_right _ (List.mem_of_getElem? (i := 1597) (by decide +kernel))) rfl
theorem kw_16 : Cond.initialized RX1 ∈ xg := xg_in (List.mem_append_right _ (List.mem_of_getElem? (i := 16) (by decide +kernel))) rfl
theorem kw_1613 : Cond.methodLink RX12 168 yX12_isSign ∈ xg := xg_in (List.mem_append_right _ (List.mem_of_getElem? (i := 1613) (by decide +kernel))) rfl
theorem kw_1615 : Cond.instanceMethod yX12_isSign ∈ xg := xg_in (List.mem_append_right _ (List.mem_of_getElem? (i := 1615) (by decide +kernel))) rfl
theorem kw_1616 : Cond.code yX12_isSign cX12_isSign 2 (some .boolean) ∈ xg := xg_in (List.mem_append_right _ (List.mem_of_getElem? (i := 1616) (by decide +kernel))) rfl
theorem kw_1629 : Cond.methodLink RX12 246 yX12_isNameOf ∈ xg := xg_in (List.mem_append_right _ (List.mem_of_getElem? (i := 1629) (by decide +kernel))) rfl
theorem kw_163 : Cond.fieldLink RX7 47 RX7 "souls" "I" ∈ xg := xg_in (List.mem_append_right _ (List.mem_of_getElem? (i := 163) (by decide +kernel))) rfl
theorem kw_1631 : Cond.instanceMethod yX12_isNameOf ∈ xg := xg_in (List.mem_append_right _ (List.mem_of_getElem? (i := 1631) (by decide +kernel))) rfl
theorem kw_1632 : Cond.code yX12_isNameOf cX12_isNameOf 2 (some .boolean) ∈ xg := xg_in (List.mem_append_right _ (List.mem_of_getElem? (i := 1632) (by decide +kernel))) rfl
theorem kw_1649 : Cond.methodLink RX12 236 yX12_isSoul ∈ xg := xg_in (List.mem_append_right _ (List.mem_of_getElem? (i := 1649) (by decide +kernel))) rfl
theorem kw_1651 : Cond.instanceMethod yX12_isSoul ∈ xg := xg_in (List.mem_append_right _ (List.mem_of_getElem? (i := 1651) (by decide +kernel))) rfl
theorem kw_1652 : Cond.code yX12_isSoul cX12_isSoul 2 (some .boolean) ∈ xg := xg_in (List.mem_append_right _ (List.mem_of_getElem? (i := 1652) (by decide +kernel))) rfl
theorem kw_1653 : Cond.methodLink RX12 252 yX12_throwsIf ∈ xg := xg_in (List.mem_append_right _ (List.mem_of_getElem? (i := 1653) (by decide +kernel))) rfl
theorem kw_1655 : Cond.instanceMethod yX12_throwsIf ∈ xg := xg_in (List.mem_append_right _ (List.mem_of_getElem? (i := 1655) (by decide +kernel))) rfl
theorem kw_1656 : Cond.code yX12_throwsIf cX12_throwsIf 2 (some .boolean) ∈ xg := xg_in (List.mem_append_right _ (List.mem_of_getElem? (i := 1656) (by decide +kernel))) rfl
theorem kw_1673 : Cond.methodLink RX12 262 yX12_freeNames ∈ xg := xg_in (List.mem_append_right _ (List.mem_of_getElem? (i := 1673) (by decide +kernel))) rfl
theorem kw_1675 : Cond.instanceMethod yX12_freeNames ∈ xg := xg_in (List.mem_append_right _ (List.mem_of_getElem? (i := 1675) (by decide +kernel))) rfl
theorem kw_1676 : Cond.code yX12_freeNames cX12_freeNames 3 (some .int) ∈ xg := xg_in (List.mem_append_right _ (List.mem_of_getElem? (i := 1676) (by decide +kernel))) rfl
theorem kw_1677 : Cond.methodLink RX12 265 yX12_sum ∈ xg := xg_in (List.mem_append_right _ (List.mem_of_getElem? (i := 1677) (by decide +kernel))) rfl
theorem kw_1679 : Cond.instanceMethod yX12_sum ∈ xg := xg_in (List.mem_append_right _ (List.mem_of_getElem? (i := 1679) (by decide +kernel))) rfl
theorem kw_1680 : Cond.code yX12_sum cX12_sum 4 (some .int) ∈ xg := xg_in (List.mem_append_right _ (List.mem_of_getElem? (i := 1680) (by decide +kernel))) rfl
theorem kw_1689 : Cond.methodLink RX12 280 yX12_keep ∈ xg := xg_in (List.mem_append_right _ (List.mem_of_getElem? (i := 1689) (by decide +kernel))) rfl
theorem kw_169 : Cond.fieldLink RX7 9 RX7 "nameWord" "[J" ∈ xg := xg_in (List.mem_append_right _ (List.mem_of_getElem? (i := 169) (by decide +kernel))) rfl
theorem kw_1691 : Cond.instanceMethod yX12_keep ∈ xg := xg_in (List.mem_append_right _ (List.mem_of_getElem? (i := 1691) (by decide +kernel))) rfl
theorem kw_1692 : Cond.code yX12_keep cX12_keep 2 none ∈ xg := xg_in (List.mem_append_right _ (List.mem_of_getElem? (i := 1692) (by decide +kernel))) rfl
theorem kw_17 : Cond.initialized RX12 ∈ xg := xg_in (List.mem_append_right _ (List.mem_of_getElem? (i := 17) (by decide +kernel))) rfl
theorem kw_170 : Cond.fieldLink RX7 15 RX7 "price" "[I" ∈ xg := xg_in (List.mem_append_right _ (List.mem_of_getElem? (i := 170) (by decide +kernel))) rfl
theorem kw_1709 : Cond.methodLink RX12 287 yX12_areTwo ∈ xg := xg_in (List.mem_append_right _ (List.mem_of_getElem? (i := 1709) (by decide +kernel))) rfl
theorem kw_1711 : Cond.instanceMethod yX12_areTwo ∈ xg := xg_in (List.mem_append_right _ (List.mem_of_getElem? (i := 1711) (by decide +kernel))) rfl
theorem kw_1712 : Cond.code yX12_areTwo cX12_areTwo 3 (some .boolean) ∈ xg := xg_in (List.mem_append_right _ (List.mem_of_getElem? (i := 1712) (by decide +kernel))) rfl
theorem kw_174 : Cond.fieldLink RX7 19 RX7 "firstDebt" "[I" ∈ xg := xg_in (List.mem_append_right _ (List.mem_of_getElem? (i := 174) (by decide +kernel))) rfl
theorem kw_177 : Cond.fieldLink RX7 22 RX7 "every" "[I" ∈ xg := xg_in (List.mem_append_right _ (List.mem_of_getElem? (i := 177) (by decide +kernel))) rfl
theorem kw_1782 : Cond.methodLink RX12 326 yX12_goes ∈ xg := xg_in (List.mem_append_right _ (List.mem_of_getElem? (i := 1782) (by decide +kernel))) rfl
theorem kw_1784 : Cond.instanceMethod yX12_goes ∈ xg := xg_in (List.mem_append_right _ (List.mem_of_getElem? (i := 1784) (by decide +kernel))) rfl
theorem kw_1785 : Cond.code yX12_goes cX12_goes 3 (some .int) ∈ xg := xg_in (List.mem_append_right _ (List.mem_of_getElem? (i := 1785) (by decide +kernel))) rfl
theorem kw_1786 : Cond.methodLink RX12 323 yX12_monday ∈ xg := xg_in (List.mem_append_right _ (List.mem_of_getElem? (i := 1786) (by decide +kernel))) rfl
theorem kw_1788 : Cond.instanceMethod yX12_monday ∈ xg := xg_in (List.mem_append_right _ (List.mem_of_getElem? (i := 1788) (by decide +kernel))) rfl
theorem kw_1789 : Cond.code yX12_monday cX12_monday 3 none ∈ xg := xg_in (List.mem_append_right _ (List.mem_of_getElem? (i := 1789) (by decide +kernel))) rfl
theorem kw_18 : Cond.initialized "java/lang/Math" ∈ xg := xg_in (List.mem_append_right _ (List.mem_of_getElem? (i := 18) (by decide +kernel))) rfl
theorem kw_180 : Cond.fieldLink RX7 25 RX7 "soulWord" "[J" ∈ xg := xg_in (List.mem_append_right _ (List.mem_of_getElem? (i := 180) (by decide +kernel))) rfl
theorem kw_181 : Cond.fieldLink RX7 28 RX7 "firstPurse" "[I" ∈ xg := xg_in (List.mem_append_right _ (List.mem_of_getElem? (i := 181) (by decide +kernel))) rfl
theorem kw_1826 : Cond.methodLink RX12 344 yX12_canBe ∈ xg := xg_in (List.mem_append_right _ (List.mem_of_getElem? (i := 1826) (by decide +kernel))) rfl
theorem kw_1828 : Cond.instanceMethod yX12_canBe ∈ xg := xg_in (List.mem_append_right _ (List.mem_of_getElem? (i := 1828) (by decide +kernel))) rfl
theorem kw_1829 : Cond.code yX12_canBe cX12_canBe 3 (some .boolean) ∈ xg := xg_in (List.mem_append_right _ (List.mem_of_getElem? (i := 1829) (by decide +kernel))) rfl
theorem kw_183 : Cond.fieldLink RX7 31 RX7 "firstName" "[I" ∈ xg := xg_in (List.mem_append_right _ (List.mem_of_getElem? (i := 183) (by decide +kernel))) rfl
theorem kw_186 : Cond.fieldLink RX7 34 RX7 "wish" "[I" ∈ xg := xg_in (List.mem_append_right _ (List.mem_of_getElem? (i := 186) (by decide +kernel))) rfl
theorem kw_1881 : Cond.methodLink RX12 374 yX12_hasEnough ∈ xg := xg_in (List.mem_append_right _ (List.mem_of_getElem? (i := 1881) (by decide +kernel))) rfl
theorem kw_1883 : Cond.instanceMethod yX12_hasEnough ∈ xg := xg_in (List.mem_append_right _ (List.mem_of_getElem? (i := 1883) (by decide +kernel))) rfl
theorem kw_1884 : Cond.code yX12_hasEnough cX12_hasEnough 5 (some .boolean) ∈ xg := xg_in (List.mem_append_right _ (List.mem_of_getElem? (i := 1884) (by decide +kernel))) rfl
theorem kw_1885 : Cond.methodLink RX12 365 yX12_waitSet ∈ xg := xg_in (List.mem_append_right _ (List.mem_of_getElem? (i := 1885) (by decide +kernel))) rfl
theorem kw_1887 : Cond.instanceMethod yX12_waitSet ∈ xg := xg_in (List.mem_append_right _ (List.mem_of_getElem? (i := 1887) (by decide +kernel))) rfl
theorem kw_1888 : Cond.code yX12_waitSet cX12_waitSet 3 (some .int) ∈ xg := xg_in (List.mem_append_right _ (List.mem_of_getElem? (i := 1888) (by decide +kernel))) rfl
theorem kw_1889 : Cond.methodLink RX12 368 yX12_calledSet ∈ xg := xg_in (List.mem_append_right _ (List.mem_of_getElem? (i := 1889) (by decide +kernel))) rfl
theorem kw_1891 : Cond.instanceMethod yX12_calledSet ∈ xg := xg_in (List.mem_append_right _ (List.mem_of_getElem? (i := 1891) (by decide +kernel))) rfl
theorem kw_1892 : Cond.code yX12_calledSet cX12_calledSet 3 (some .int) ∈ xg := xg_in (List.mem_append_right _ (List.mem_of_getElem? (i := 1892) (by decide +kernel))) rfl
theorem kw_1893 : Cond.methodLink RX12 371 yX12_bits ∈ xg := xg_in (List.mem_append_right _ (List.mem_of_getElem? (i := 1893) (by decide +kernel))) rfl
theorem kw_1894 : Cond.static yX12_bits ∈ xg := xg_in (List.mem_append_right _ (List.mem_of_getElem? (i := 1894) (by decide +kernel))) rfl
theorem kw_1895 : Cond.code yX12_bits cX12_bits 3 (some .int) ∈ xg := xg_in (List.mem_append_right _ (List.mem_of_getElem? (i := 1895) (by decide +kernel))) rfl
theorem kw_19 : Cond.initialized "java/lang/System" ∈ xg := xg_in (List.mem_append_right _ (List.mem_of_getElem? (i := 19) (by decide +kernel))) rfl
theorem kw_191 : Cond.fieldLink RX7 37 RX7 "old" "[I" ∈ xg := xg_in (List.mem_append_right _ (List.mem_of_getElem? (i := 191) (by decide +kernel))) rfl
theorem kw_1937 : Cond.methodLink RX12 395 yX12_tries ∈ xg := xg_in (List.mem_append_right _ (List.mem_of_getElem? (i := 1937) (by decide +kernel))) rfl
theorem kw_1939 : Cond.instanceMethod yX12_tries ∈ xg := xg_in (List.mem_append_right _ (List.mem_of_getElem? (i := 1939) (by decide +kernel))) rfl
theorem kw_194 : Cond.fieldLink RX7 40 RX7 "worthRow" "[I" ∈ xg := xg_in (List.mem_append_right _ (List.mem_of_getElem? (i := 194) (by decide +kernel))) rfl
theorem kw_1940 : Cond.code yX12_tries cX12_tries 2 none ∈ xg := xg_in (List.mem_append_right _ (List.mem_of_getElem? (i := 1940) (by decide +kernel))) rfl
theorem kw_1941 : Cond.methodLink RX12 398 yX12_back ∈ xg := xg_in (List.mem_append_right _ (List.mem_of_getElem? (i := 1941) (by decide +kernel))) rfl
theorem kw_1943 : Cond.instanceMethod yX12_back ∈ xg := xg_in (List.mem_append_right _ (List.mem_of_getElem? (i := 1943) (by decide +kernel))) rfl
theorem kw_1944 : Cond.code yX12_back cX12_back 2 none ∈ xg := xg_in (List.mem_append_right _ (List.mem_of_getElem? (i := 1944) (by decide +kernel))) rfl
theorem kw_1985 : Cond.methodLink RX12 448 yX12_operand ∈ xg := xg_in (List.mem_append_right _ (List.mem_of_getElem? (i := 1985) (by decide +kernel))) rfl
theorem kw_1987 : Cond.instanceMethod yX12_operand ∈ xg := xg_in (List.mem_append_right _ (List.mem_of_getElem? (i := 1987) (by decide +kernel))) rfl
theorem kw_1988 : Cond.code yX12_operand cX12_operand 5 (some .boolean) ∈ xg := xg_in (List.mem_append_right _ (List.mem_of_getElem? (i := 1988) (by decide +kernel))) rfl
theorem kw_1989 : Cond.methodLink RX12 430 yX12_leafOf ∈ xg := xg_in (List.mem_append_right _ (List.mem_of_getElem? (i := 1989) (by decide +kernel))) rfl
theorem kw_1991 : Cond.instanceMethod yX12_leafOf ∈ xg := xg_in (List.mem_append_right _ (List.mem_of_getElem? (i := 1991) (by decide +kernel))) rfl
theorem kw_1992 : Cond.code yX12_leafOf cX12_leafOf 1 (some .int) ∈ xg := xg_in (List.mem_append_right _ (List.mem_of_getElem? (i := 1992) (by decide +kernel))) rfl
theorem kw_2 : Cond.initialized RX6 ∈ xg := xg_in (List.mem_append_right _ (List.mem_of_getElem? (i := 2) (by decide +kernel))) rfl
theorem kw_2034 : Cond.fieldLink RJ0 9 RJ0 "value" "[B" ∈ xg := xg_in (List.mem_append_right _ (List.mem_of_getElem? (i := 2034) (by decide +kernel))) rfl
theorem kw_2035 : Cond.fieldLink RJ0 15 RJ0 "coder" "B" ∈ xg := xg_in (List.mem_append_right _ (List.mem_of_getElem? (i := 2035) (by decide +kernel))) rfl
theorem kw_221 : Cond.arrayClass .int ∈ xg := xg_in (List.mem_append_right _ (List.mem_of_getElem? (i := 221) (by decide +kernel))) rfl
theorem kw_222 : Cond.classLink RX11 26 RX8 ∈ xg := xg_in (List.mem_append_right _ (List.mem_of_getElem? (i := 222) (by decide +kernel))) rfl
theorem kw_223 : Cond.instantiable RX8 3 ∈ xg := xg_in (List.mem_append_right _ (List.mem_of_getElem? (i := 223) (by decide +kernel))) rfl
theorem kw_225 : Cond.instanceMethod yX8_init ∈ xg := xg_in (List.mem_append_right _ (List.mem_of_getElem? (i := 225) (by decide +kernel))) rfl
theorem kw_226 : Cond.code yX8_init cX8_init 3 none ∈ xg := xg_in (List.mem_append_right _ (List.mem_of_getElem? (i := 226) (by decide +kernel))) rfl
theorem kw_227 : Cond.methodLink RX8 3 objectInit ∈ xg := xg_in (List.mem_append_right _ (List.mem_of_getElem? (i := 227) (by decide +kernel))) rfl
theorem kw_228 : Cond.fieldLink RX8 9 RX8 "tape" "LNamesAgain$Tape;" ∈ xg := xg_in (List.mem_append_right _ (List.mem_of_getElem? (i := 228) (by decide +kernel))) rfl
theorem kw_229 : Cond.fieldLink RX8 15 RX8 "draft" "LNamesAgain$Told;" ∈ xg := xg_in (List.mem_append_right _ (List.mem_of_getElem? (i := 229) (by decide +kernel))) rfl
theorem kw_230 : Cond.fieldLink RX8 30 RX8 "lineCount" "I" ∈ xg := xg_in (List.mem_append_right _ (List.mem_of_getElem? (i := 230) (by decide +kernel))) rfl
theorem kw_239 : Cond.classLink RX11 35 RX2 ∈ xg := xg_in (List.mem_append_right _ (List.mem_of_getElem? (i := 239) (by decide +kernel))) rfl
theorem kw_240 : Cond.instantiable RX2 15 ∈ xg := xg_in (List.mem_append_right _ (List.mem_of_getElem? (i := 240) (by decide +kernel))) rfl
theorem kw_242 : Cond.instanceMethod yX2_init ∈ xg := xg_in (List.mem_append_right _ (List.mem_of_getElem? (i := 242) (by decide +kernel))) rfl
theorem kw_243 : Cond.code yX2_init cX2_init 2 none ∈ xg := xg_in (List.mem_append_right _ (List.mem_of_getElem? (i := 243) (by decide +kernel))) rfl
theorem kw_244 : Cond.methodLink RX2 3 objectInit ∈ xg := xg_in (List.mem_append_right _ (List.mem_of_getElem? (i := 244) (by decide +kernel))) rfl
theorem kw_245 : Cond.fieldLink RX2 37 RX2 "told" "LNamesAgain$Told;" ∈ xg := xg_in (List.mem_append_right _ (List.mem_of_getElem? (i := 245) (by decide +kernel))) rfl
theorem kw_247 : Cond.fieldLink RX2 41 RX2 "monday" "I" ∈ xg := xg_in (List.mem_append_right _ (List.mem_of_getElem? (i := 247) (by decide +kernel))) rfl
theorem kw_250 : Cond.fieldLink RX2 50 RX2 "living" "I" ∈ xg := xg_in (List.mem_append_right _ (List.mem_of_getElem? (i := 250) (by decide +kernel))) rfl
theorem kw_252 : Cond.fieldLink RX2 53 RX2 "changed" "I" ∈ xg := xg_in (List.mem_append_right _ (List.mem_of_getElem? (i := 252) (by decide +kernel))) rfl
theorem kw_253 : Cond.fieldLink RX2 56 RX2 "fugitives" "I" ∈ xg := xg_in (List.mem_append_right _ (List.mem_of_getElem? (i := 253) (by decide +kernel))) rfl
theorem kw_255 : Cond.fieldLink RX2 59 RX2 "sour" "I" ∈ xg := xg_in (List.mem_append_right _ (List.mem_of_getElem? (i := 255) (by decide +kernel))) rfl
theorem kw_257 : Cond.fieldLink RX2 62 RX2 "waitCount" "I" ∈ xg := xg_in (List.mem_append_right _ (List.mem_of_getElem? (i := 257) (by decide +kernel))) rfl
theorem kw_260 : Cond.fieldLink RX2 9 RX2 "bearer" "[I" ∈ xg := xg_in (List.mem_append_right _ (List.mem_of_getElem? (i := 260) (by decide +kernel))) rfl
theorem kw_264 : Cond.fieldLink RX2 15 RX2 "debt" "[I" ∈ xg := xg_in (List.mem_append_right _ (List.mem_of_getElem? (i := 264) (by decide +kernel))) rfl
theorem kw_266 : Cond.fieldLink RX2 18 RX2 "hangedTill" "[I" ∈ xg := xg_in (List.mem_append_right _ (List.mem_of_getElem? (i := 266) (by decide +kernel))) rfl
theorem kw_267 : Cond.fieldLink RX2 21 RX2 "nameOf" "[I" ∈ xg := xg_in (List.mem_append_right _ (List.mem_of_getElem? (i := 267) (by decide +kernel))) rfl
theorem kw_271 : Cond.fieldLink RX2 24 RX2 "purse" "[I" ∈ xg := xg_in (List.mem_append_right _ (List.mem_of_getElem? (i := 271) (by decide +kernel))) rfl
theorem kw_275 : Cond.fieldLink RX2 27 RX2 "feasted" "[I" ∈ xg := xg_in (List.mem_append_right _ (List.mem_of_getElem? (i := 275) (by decide +kernel))) rfl
theorem kw_278 : Cond.fieldLink RX2 30 RX2 "waiting" "[I" ∈ xg := xg_in (List.mem_append_right _ (List.mem_of_getElem? (i := 278) (by decide +kernel))) rfl
theorem kw_281 : Cond.fieldLink RX2 33 RX2 "past" "[J" ∈ xg := xg_in (List.mem_append_right _ (List.mem_of_getElem? (i := 281) (by decide +kernel))) rfl
theorem kw_3 : Cond.initialized RJ0 ∈ xg := xg_in (List.mem_append_right _ (List.mem_of_getElem? (i := 3) (by decide +kernel))) rfl
theorem kw_30 : Cond.methodLink RX11 1 objectInit ∈ xg := xg_in (List.mem_append_right _ (List.mem_of_getElem? (i := 30) (by decide +kernel))) rfl
theorem kw_31 : Cond.instanceMethod objectInit ∈ xg := xg_in (List.mem_append_right _ (List.mem_of_getElem? (i := 31) (by decide +kernel))) rfl
theorem kw_313 : Cond.classLink RX11 47 RX9 ∈ xg := xg_in (List.mem_append_right _ (List.mem_of_getElem? (i := 313) (by decide +kernel))) rfl
theorem kw_314 : Cond.instantiable RX9 3 ∈ xg := xg_in (List.mem_append_right _ (List.mem_of_getElem? (i := 314) (by decide +kernel))) rfl
theorem kw_316 : Cond.instanceMethod yX9_init ∈ xg := xg_in (List.mem_append_right _ (List.mem_of_getElem? (i := 316) (by decide +kernel))) rfl
theorem kw_317 : Cond.code yX9_init cX9_init 3 none ∈ xg := xg_in (List.mem_append_right _ (List.mem_of_getElem? (i := 317) (by decide +kernel))) rfl
theorem kw_318 : Cond.methodLink RX9 1 objectInit ∈ xg := xg_in (List.mem_append_right _ (List.mem_of_getElem? (i := 318) (by decide +kernel))) rfl
theorem kw_319 : Cond.classLink RX9 9 RX2 ∈ xg := xg_in (List.mem_append_right _ (List.mem_of_getElem? (i := 319) (by decide +kernel))) rfl
theorem kw_32 : Cond.code objectInit ⟨#[0xb1]⟩ 1 none ∈ xg := xg_in (List.mem_append_right _ (List.mem_of_getElem? (i := 32) (by decide +kernel))) rfl
theorem kw_322 : Cond.fieldLink RX9 11 RX9 "kept" "[LNamesAgain$Life;" ∈ xg := xg_in (List.mem_append_right _ (List.mem_of_getElem? (i := 322) (by decide +kernel))) rfl
theorem kw_323 : Cond.fieldLink RX9 18 RX9 "next" "I" ∈ xg := xg_in (List.mem_append_right _ (List.mem_of_getElem? (i := 323) (by decide +kernel))) rfl
theorem kw_324 : Cond.fieldLink RX9 26 RX9 "size" "I" ∈ xg := xg_in (List.mem_append_right _ (List.mem_of_getElem? (i := 324) (by decide +kernel))) rfl
theorem kw_33 : Cond.classLink RX11 7 RX6 ∈ xg := xg_in (List.mem_append_right _ (List.mem_of_getElem? (i := 33) (by decide +kernel))) rfl
theorem kw_333 : Cond.classLink RX11 54 RX4 ∈ xg := xg_in (List.mem_append_right _ (List.mem_of_getElem? (i := 333) (by decide +kernel))) rfl
theorem kw_334 : Cond.instantiable RX4 11 ∈ xg := xg_in (List.mem_append_right _ (List.mem_of_getElem? (i := 334) (by decide +kernel))) rfl
theorem kw_336 : Cond.instanceMethod yX4_init ∈ xg := xg_in (List.mem_append_right _ (List.mem_of_getElem? (i := 336) (by decide +kernel))) rfl
theorem kw_337 : Cond.code yX4_init cX4_init 3 none ∈ xg := xg_in (List.mem_append_right _ (List.mem_of_getElem? (i := 337) (by decide +kernel))) rfl
theorem kw_338 : Cond.methodLink RX4 3 objectInit ∈ xg := xg_in (List.mem_append_right _ (List.mem_of_getElem? (i := 338) (by decide +kernel))) rfl
theorem kw_339 : Cond.fieldLink RX4 21 RX4 "tape" "LNamesAgain$Tape;" ∈ xg := xg_in (List.mem_append_right _ (List.mem_of_getElem? (i := 339) (by decide +kernel))) rfl
theorem kw_34 : Cond.instantiable RX6 14 ∈ xg := xg_in (List.mem_append_right _ (List.mem_of_getElem? (i := 34) (by decide +kernel))) rfl
theorem kw_340 : Cond.fieldLink RX4 25 RX4 "told" "LNamesAgain$Told;" ∈ xg := xg_in (List.mem_append_right _ (List.mem_of_getElem? (i := 340) (by decide +kernel))) rfl
theorem kw_341 : Cond.fieldLink RX4 11 RX4 "sort" "[I" ∈ xg := xg_in (List.mem_append_right _ (List.mem_of_getElem? (i := 341) (by decide +kernel))) rfl
theorem kw_342 : Cond.fieldLink RX4 15 RX4 "who" "[I" ∈ xg := xg_in (List.mem_append_right _ (List.mem_of_getElem? (i := 342) (by decide +kernel))) rfl
theorem kw_343 : Cond.fieldLink RX4 18 RX4 "whom" "[I" ∈ xg := xg_in (List.mem_append_right _ (List.mem_of_getElem? (i := 343) (by decide +kernel))) rfl
theorem kw_344 : Cond.fieldLink RX4 29 RX4 "lineCount" "I" ∈ xg := xg_in (List.mem_append_right _ (List.mem_of_getElem? (i := 344) (by decide +kernel))) rfl
theorem kw_345 : Cond.fieldLink RX4 109 RX4 "judged" "Z" ∈ xg := xg_in (List.mem_append_right _ (List.mem_of_getElem? (i := 345) (by decide +kernel))) rfl
theorem kw_347 : Cond.fieldLink RX4 113 RX4 "reason" "I" ∈ xg := xg_in (List.mem_append_right _ (List.mem_of_getElem? (i := 347) (by decide +kernel))) rfl
theorem kw_349 : Cond.fieldLink RX4 116 RX4 "goodLines" "I" ∈ xg := xg_in (List.mem_append_right _ (List.mem_of_getElem? (i := 349) (by decide +kernel))) rfl
theorem kw_351 : Cond.fieldLink RX4 131 RX4 "mondayThen" "I" ∈ xg := xg_in (List.mem_append_right _ (List.mem_of_getElem? (i := 351) (by decide +kernel))) rfl
theorem kw_353 : Cond.fieldLink RX4 137 RX4 "waitingThen" "I" ∈ xg := xg_in (List.mem_append_right _ (List.mem_of_getElem? (i := 353) (by decide +kernel))) rfl
theorem kw_36 : Cond.instanceMethod yX6_init ∈ xg := xg_in (List.mem_append_right _ (List.mem_of_getElem? (i := 36) (by decide +kernel))) rfl
theorem kw_37 : Cond.code yX6_init cX6_init 1 none ∈ xg := xg_in (List.mem_append_right _ (List.mem_of_getElem? (i := 37) (by decide +kernel))) rfl
theorem kw_378 : Cond.classLink RX11 61 RX5 ∈ xg := xg_in (List.mem_append_right _ (List.mem_of_getElem? (i := 378) (by decide +kernel))) rfl
theorem kw_379 : Cond.instantiable RX5 8 ∈ xg := xg_in (List.mem_append_right _ (List.mem_of_getElem? (i := 379) (by decide +kernel))) rfl
theorem kw_38 : Cond.methodLink RX6 3 objectInit ∈ xg := xg_in (List.mem_append_right _ (List.mem_of_getElem? (i := 38) (by decide +kernel))) rfl
theorem kw_381 : Cond.instanceMethod yX5_init ∈ xg := xg_in (List.mem_append_right _ (List.mem_of_getElem? (i := 381) (by decide +kernel))) rfl
theorem kw_382 : Cond.code yX5_init cX5_init 3 none ∈ xg := xg_in (List.mem_append_right _ (List.mem_of_getElem? (i := 382) (by decide +kernel))) rfl
theorem kw_383 : Cond.methodLink RX5 5 objectInit ∈ xg := xg_in (List.mem_append_right _ (List.mem_of_getElem? (i := 383) (by decide +kernel))) rfl
theorem kw_384 : Cond.fieldLink RX5 24 RX5 "tape" "LNamesAgain$Tape;" ∈ xg := xg_in (List.mem_append_right _ (List.mem_of_getElem? (i := 384) (by decide +kernel))) rfl
theorem kw_385 : Cond.fieldLink RX5 28 RX5 "told" "LNamesAgain$Told;" ∈ xg := xg_in (List.mem_append_right _ (List.mem_of_getElem? (i := 385) (by decide +kernel))) rfl
theorem kw_386 : Cond.fieldLink RX5 11 RX5 "step" "[I" ∈ xg := xg_in (List.mem_append_right _ (List.mem_of_getElem? (i := 386) (by decide +kernel))) rfl
theorem kw_387 : Cond.fieldLink RX5 15 RX5 "sign" "[I" ∈ xg := xg_in (List.mem_append_right _ (List.mem_of_getElem? (i := 387) (by decide +kernel))) rfl
theorem kw_388 : Cond.fieldLink RX5 18 RX5 "value" "[I" ∈ xg := xg_in (List.mem_append_right _ (List.mem_of_getElem? (i := 388) (by decide +kernel))) rfl
theorem kw_389 : Cond.fieldLink RX5 21 RX5 "sets" "[I" ∈ xg := xg_in (List.mem_append_right _ (List.mem_of_getElem? (i := 389) (by decide +kernel))) rfl
theorem kw_390 : Cond.fieldLink RX5 32 RX5 "steps" "I" ∈ xg := xg_in (List.mem_append_right _ (List.mem_of_getElem? (i := 390) (by decide +kernel))) rfl
theorem kw_391 : Cond.fieldLink RX5 36 RX5 "ones" "I" ∈ xg := xg_in (List.mem_append_right _ (List.mem_of_getElem? (i := 391) (by decide +kernel))) rfl
theorem kw_4 : Cond.initialized RJ1 ∈ xg := xg_in (List.mem_append_right _ (List.mem_of_getElem? (i := 4) (by decide +kernel))) rfl
theorem kw_40 : Cond.methodLink RX6 21 yX6_keepOwn ∈ xg := xg_in (List.mem_append_right _ (List.mem_of_getElem? (i := 40) (by decide +kernel))) rfl
theorem kw_410 : Cond.classLink RX11 71 RX10 ∈ xg := xg_in (List.mem_append_right _ (List.mem_of_getElem? (i := 410) (by decide +kernel))) rfl
theorem kw_411 : Cond.instantiable RX10 5 ∈ xg := xg_in (List.mem_append_right _ (List.mem_of_getElem? (i := 411) (by decide +kernel))) rfl
theorem kw_413 : Cond.instanceMethod yX10_init ∈ xg := xg_in (List.mem_append_right _ (List.mem_of_getElem? (i := 413) (by decide +kernel))) rfl
theorem kw_414 : Cond.code yX10_init cX10_init 3 none ∈ xg := xg_in (List.mem_append_right _ (List.mem_of_getElem? (i := 414) (by decide +kernel))) rfl
theorem kw_415 : Cond.methodLink RX10 3 objectInit ∈ xg := xg_in (List.mem_append_right _ (List.mem_of_getElem? (i := 415) (by decide +kernel))) rfl
theorem kw_416 : Cond.fieldLink RX10 18 RX10 "told" "LNamesAgain$Told;" ∈ xg := xg_in (List.mem_append_right _ (List.mem_of_getElem? (i := 416) (by decide +kernel))) rfl
theorem kw_417 : Cond.fieldLink RX10 22 RX10 "life" "LNamesAgain$Life;" ∈ xg := xg_in (List.mem_append_right _ (List.mem_of_getElem? (i := 417) (by decide +kernel))) rfl
theorem kw_418 : Cond.fieldLink RX10 9 RX10 "pointsAt" "[I" ∈ xg := xg_in (List.mem_append_right _ (List.mem_of_getElem? (i := 418) (by decide +kernel))) rfl
theorem kw_419 : Cond.fieldLink RX10 15 RX10 "partners" "[I" ∈ xg := xg_in (List.mem_append_right _ (List.mem_of_getElem? (i := 419) (by decide +kernel))) rfl
theorem kw_42 : Cond.instanceMethod yX6_keepOwn ∈ xg := xg_in (List.mem_append_right _ (List.mem_of_getElem? (i := 42) (by decide +kernel))) rfl
theorem kw_420 : Cond.fieldLink RX10 26 RX10 "hasPartners" "Z" ∈ xg := xg_in (List.mem_append_right _ (List.mem_of_getElem? (i := 420) (by decide +kernel))) rfl
theorem kw_43 : Cond.code yX6_keepOwn cX6_keepOwn 5 none ∈ xg := xg_in (List.mem_append_right _ (List.mem_of_getElem? (i := 43) (by decide +kernel))) rfl
theorem kw_432 : Cond.classLink RX11 80 RX3 ∈ xg := xg_in (List.mem_append_right _ (List.mem_of_getElem? (i := 432) (by decide +kernel))) rfl
theorem kw_433 : Cond.instantiable RX3 5 ∈ xg := xg_in (List.mem_append_right _ (List.mem_of_getElem? (i := 433) (by decide +kernel))) rfl
theorem kw_435 : Cond.instanceMethod yX3_init ∈ xg := xg_in (List.mem_append_right _ (List.mem_of_getElem? (i := 435) (by decide +kernel))) rfl
theorem kw_436 : Cond.code yX3_init cX3_init 3 none ∈ xg := xg_in (List.mem_append_right _ (List.mem_of_getElem? (i := 436) (by decide +kernel))) rfl
theorem kw_437 : Cond.methodLink RX3 3 objectInit ∈ xg := xg_in (List.mem_append_right _ (List.mem_of_getElem? (i := 437) (by decide +kernel))) rfl
theorem kw_438 : Cond.fieldLink RX3 15 RX3 "told" "LNamesAgain$Told;" ∈ xg := xg_in (List.mem_append_right _ (List.mem_of_getElem? (i := 438) (by decide +kernel))) rfl
theorem kw_439 : Cond.fieldLink RX3 19 RX3 "life" "LNamesAgain$Life;" ∈ xg := xg_in (List.mem_append_right _ (List.mem_of_getElem? (i := 439) (by decide +kernel))) rfl
theorem kw_44 : Cond.methodLink RX6 29 yJ0_length_8abf5 ∈ xg := xg_in (List.mem_append_right _ (List.mem_of_getElem? (i := 44) (by decide +kernel))) rfl
theorem kw_443 : Cond.fieldLink RX3 9 RX3 "cheapestName" "I" ∈ xg := xg_in (List.mem_append_right _ (List.mem_of_getElem? (i := 443) (by decide +kernel))) rfl
theorem kw_45 : Cond.instanceMethod yJ0_length_8abf5 ∈ xg := xg_in (List.mem_append_right _ (List.mem_of_getElem? (i := 45) (by decide +kernel))) rfl
theorem kw_456 : Cond.classLink RX11 87 RX0 ∈ xg := xg_in (List.mem_append_right _ (List.mem_of_getElem? (i := 456) (by decide +kernel))) rfl
theorem kw_457 : Cond.instantiable RX0 1 ∈ xg := xg_in (List.mem_append_right _ (List.mem_of_getElem? (i := 457) (by decide +kernel))) rfl
theorem kw_459 : Cond.instanceMethod yX0_init ∈ xg := xg_in (List.mem_append_right _ (List.mem_of_getElem? (i := 459) (by decide +kernel))) rfl
theorem kw_46 : Cond.selects RJ0 yJ0_length_8abf5 yJ0_length_8abf5 ∈ xg := xg_in (List.mem_append_right _ (List.mem_of_getElem? (i := 46) (by decide +kernel))) rfl
theorem kw_460 : Cond.code yX0_init cX0_init 1 none ∈ xg := xg_in (List.mem_append_right _ (List.mem_of_getElem? (i := 460) (by decide +kernel))) rfl
theorem kw_461 : Cond.methodLink RX0 1 objectInit ∈ xg := xg_in (List.mem_append_right _ (List.mem_of_getElem? (i := 461) (by decide +kernel))) rfl
theorem kw_467 : Cond.classLink RX11 94 RX1 ∈ xg := xg_in (List.mem_append_right _ (List.mem_of_getElem? (i := 467) (by decide +kernel))) rfl
theorem kw_469 : Cond.instantiable RX1 4 ∈ xg := xg_in (List.mem_append_right _ (List.mem_of_getElem? (i := 469) (by decide +kernel))) rfl
theorem kw_47 : Cond.code yJ0_length_8abf5 cJ0_length_8abf5 1 (some .int) ∈ xg := xg_in (List.mem_append_right _ (List.mem_of_getElem? (i := 47) (by decide +kernel))) rfl
theorem kw_471 : Cond.instanceMethod yX1_init ∈ xg := xg_in (List.mem_append_right _ (List.mem_of_getElem? (i := 471) (by decide +kernel))) rfl
theorem kw_472 : Cond.code yX1_init cX1_init 2 none ∈ xg := xg_in (List.mem_append_right _ (List.mem_of_getElem? (i := 472) (by decide +kernel))) rfl
theorem kw_473 : Cond.methodLink RX1 1 objectInit ∈ xg := xg_in (List.mem_append_right _ (List.mem_of_getElem? (i := 473) (by decide +kernel))) rfl
theorem kw_474 : Cond.classLink RX1 7 RX7 ∈ xg := xg_in (List.mem_append_right _ (List.mem_of_getElem? (i := 474) (by decide +kernel))) rfl
theorem kw_476 : Cond.classLink RX1 16 RX2 ∈ xg := xg_in (List.mem_append_right _ (List.mem_of_getElem? (i := 476) (by decide +kernel))) rfl
theorem kw_478 : Cond.classLink RX1 25 RX5 ∈ xg := xg_in (List.mem_append_right _ (List.mem_of_getElem? (i := 478) (by decide +kernel))) rfl
theorem kw_48 : Cond.methodLink RJ0 335 yJ0_coder_7d493 ∈ xg := xg_in (List.mem_append_right _ (List.mem_of_getElem? (i := 48) (by decide +kernel))) rfl
theorem kw_480 : Cond.fieldLink RX1 10 RX1 "told" "LNamesAgain$Told;" ∈ xg := xg_in (List.mem_append_right _ (List.mem_of_getElem? (i := 480) (by decide +kernel))) rfl
theorem kw_482 : Cond.fieldLink RX1 21 RX1 "life" "LNamesAgain$Life;" ∈ xg := xg_in (List.mem_append_right _ (List.mem_of_getElem? (i := 482) (by decide +kernel))) rfl
theorem kw_484 : Cond.fieldLink RX1 30 RX1 "saying" "LNamesAgain$Sentence;" ∈ xg := xg_in (List.mem_append_right _ (List.mem_of_getElem? (i := 484) (by decide +kernel))) rfl
theorem kw_49 : Cond.instanceMethod yJ0_coder_7d493 ∈ xg := xg_in (List.mem_append_right _ (List.mem_of_getElem? (i := 49) (by decide +kernel))) rfl
theorem kw_496 : Cond.fieldLink RX11 10 RX11 "tape" "LNamesAgain$Tape;" ∈ xg := xg_in (List.mem_append_right _ (List.mem_of_getElem? (i := 496) (by decide +kernel))) rfl
theorem kw_497 : Cond.fieldLink RX11 19 RX11 "told" "LNamesAgain$Told;" ∈ xg := xg_in (List.mem_append_right _ (List.mem_of_getElem? (i := 497) (by decide +kernel))) rfl
theorem kw_498 : Cond.fieldLink RX11 23 RX11 "draft" "LNamesAgain$Told;" ∈ xg := xg_in (List.mem_append_right _ (List.mem_of_getElem? (i := 498) (by decide +kernel))) rfl
theorem kw_499 : Cond.fieldLink RX11 31 RX11 "townReader" "LNamesAgain$TownReader;" ∈ xg := xg_in (List.mem_append_right _ (List.mem_of_getElem? (i := 499) (by decide +kernel))) rfl
theorem kw_5 : Cond.initialized RJ3 ∈ xg := xg_in (List.mem_append_right _ (List.mem_of_getElem? (i := 5) (by decide +kernel))) rfl
theorem kw_50 : Cond.selects RJ0 yJ0_coder_7d493 yJ0_coder_7d493 ∈ xg := xg_in (List.mem_append_right _ (List.mem_of_getElem? (i := 50) (by decide +kernel))) rfl
theorem kw_500 : Cond.fieldLink RX11 40 RX11 "life" "LNamesAgain$Life;" ∈ xg := xg_in (List.mem_append_right _ (List.mem_of_getElem? (i := 500) (by decide +kernel))) rfl
theorem kw_501 : Cond.fieldLink RX11 44 RX11 "spare" "LNamesAgain$Life;" ∈ xg := xg_in (List.mem_append_right _ (List.mem_of_getElem? (i := 501) (by decide +kernel))) rfl
theorem kw_502 : Cond.fieldLink RX11 50 RX11 "undos" "LNamesAgain$Undo;" ∈ xg := xg_in (List.mem_append_right _ (List.mem_of_getElem? (i := 502) (by decide +kernel))) rfl
theorem kw_503 : Cond.fieldLink RX11 57 RX11 "lines" "LNamesAgain$Roll;" ∈ xg := xg_in (List.mem_append_right _ (List.mem_of_getElem? (i := 503) (by decide +kernel))) rfl
theorem kw_504 : Cond.fieldLink RX11 64 RX11 "saying" "LNamesAgain$Sentence;" ∈ xg := xg_in (List.mem_append_right _ (List.mem_of_getElem? (i := 504) (by decide +kernel))) rfl
theorem kw_505 : Cond.fieldLink RX11 68 RX11 "newSaying" "LNamesAgain$Sentence;" ∈ xg := xg_in (List.mem_append_right _ (List.mem_of_getElem? (i := 505) (by decide +kernel))) rfl
theorem kw_506 : Cond.fieldLink RX11 76 RX11 "wishing" "LNamesAgain$Wishes;" ∈ xg := xg_in (List.mem_append_right _ (List.mem_of_getElem? (i := 506) (by decide +kernel))) rfl
theorem kw_507 : Cond.fieldLink RX11 83 RX11 "market" "LNamesAgain$Market;" ∈ xg := xg_in (List.mem_append_right _ (List.mem_of_getElem? (i := 507) (by decide +kernel))) rfl
theorem kw_508 : Cond.fieldLink RX11 90 RX11 "draw" "LNamesAgain$Draw;" ∈ xg := xg_in (List.mem_append_right _ (List.mem_of_getElem? (i := 508) (by decide +kernel))) rfl
theorem kw_509 : Cond.fieldLink RX11 96 RX11 "images" "[LNamesAgain$Image;" ∈ xg := xg_in (List.mem_append_right _ (List.mem_of_getElem? (i := 509) (by decide +kernel))) rfl
theorem kw_51 : Cond.code yJ0_coder_7d493 cJ0_coder_7d493 1 (some .byte) ∈ xg := xg_in (List.mem_append_right _ (List.mem_of_getElem? (i := 51) (by decide +kernel))) rfl
theorem kw_510 : Cond.fieldLink RX11 122 RX11 "latestFault" "I" ∈ xg := xg_in (List.mem_append_right _ (List.mem_of_getElem? (i := 510) (by decide +kernel))) rfl
theorem kw_52 : Cond.fieldLink RJ0 38 RJ0 "COMPACT_STRINGS" "Z" ∈ xg := xg_in (List.mem_append_right _ (List.mem_of_getElem? (i := 52) (by decide +kernel))) rfl
theorem kw_54 : Cond.methodLink RX6 39 yJ0_charAt_5068e ∈ xg := xg_in (List.mem_append_right _ (List.mem_of_getElem? (i := 54) (by decide +kernel))) rfl
theorem kw_548 : Cond.instanceMethod yX6_hasRoom ∈ xg := xg_in (List.mem_append_right _ (List.mem_of_getElem? (i := 548) (by decide +kernel))) rfl
theorem kw_549 : Cond.code yX6_hasRoom cX6_hasRoom 2 (some .boolean) ∈ xg := xg_in (List.mem_append_right _ (List.mem_of_getElem? (i := 549) (by decide +kernel))) rfl
theorem kw_55 : Cond.instanceMethod yJ0_charAt_5068e ∈ xg := xg_in (List.mem_append_right _ (List.mem_of_getElem? (i := 55) (by decide +kernel))) rfl
theorem kw_552 : Cond.instanceMethod yX6_put ∈ xg := xg_in (List.mem_append_right _ (List.mem_of_getElem? (i := 552) (by decide +kernel))) rfl
theorem kw_553 : Cond.code yX6_put cX6_put 3 none ∈ xg := xg_in (List.mem_append_right _ (List.mem_of_getElem? (i := 553) (by decide +kernel))) rfl
theorem kw_56 : Cond.selects RJ0 yJ0_charAt_5068e yJ0_charAt_5068e ∈ xg := xg_in (List.mem_append_right _ (List.mem_of_getElem? (i := 56) (by decide +kernel))) rfl
theorem kw_564 : Cond.instanceMethod yX8_read ∈ xg := xg_in (List.mem_append_right _ (List.mem_of_getElem? (i := 564) (by decide +kernel))) rfl
theorem kw_565 : Cond.code yX8_read cX8_read 1 (some .boolean) ∈ xg := xg_in (List.mem_append_right _ (List.mem_of_getElem? (i := 565) (by decide +kernel))) rfl
theorem kw_568 : Cond.instanceMethod yX7_clear ∈ xg := xg_in (List.mem_append_right _ (List.mem_of_getElem? (i := 568) (by decide +kernel))) rfl
theorem kw_569 : Cond.code yX7_clear cX7_clear 1 none ∈ xg := xg_in (List.mem_append_right _ (List.mem_of_getElem? (i := 569) (by decide +kernel))) rfl
theorem kw_57 : Cond.code yJ0_charAt_5068e cJ0_charAt_5068e 2 (some .char) ∈ xg := xg_in (List.mem_append_right _ (List.mem_of_getElem? (i := 57) (by decide +kernel))) rfl
theorem kw_572 : Cond.instanceMethod yX6_startText ∈ xg := xg_in (List.mem_append_right _ (List.mem_of_getElem? (i := 572) (by decide +kernel))) rfl
theorem kw_573 : Cond.code yX6_startText cX6_startText 2 none ∈ xg := xg_in (List.mem_append_right _ (List.mem_of_getElem? (i := 573) (by decide +kernel))) rfl
theorem kw_574 : Cond.methodLink RX6 57 yX6_advance ∈ xg := xg_in (List.mem_append_right _ (List.mem_of_getElem? (i := 574) (by decide +kernel))) rfl
theorem kw_576 : Cond.instanceMethod yX6_advance ∈ xg := xg_in (List.mem_append_right _ (List.mem_of_getElem? (i := 576) (by decide +kernel))) rfl
theorem kw_577 : Cond.code yX6_advance cX6_advance 4 none ∈ xg := xg_in (List.mem_append_right _ (List.mem_of_getElem? (i := 577) (by decide +kernel))) rfl
theorem kw_58 : Cond.methodLink RJ0 492 yJ0_isLatin1_aae02 ∈ xg := xg_in (List.mem_append_right _ (List.mem_of_getElem? (i := 58) (by decide +kernel))) rfl
theorem kw_585 : Cond.instanceMethod yX6_isWord ∈ xg := xg_in (List.mem_append_right _ (List.mem_of_getElem? (i := 585) (by decide +kernel))) rfl
theorem kw_586 : Cond.code yX6_isWord cX6_isWord 5 (some .boolean) ∈ xg := xg_in (List.mem_append_right _ (List.mem_of_getElem? (i := 586) (by decide +kernel))) rfl
theorem kw_59 : Cond.instanceMethod yJ0_isLatin1_aae02 ∈ xg := xg_in (List.mem_append_right _ (List.mem_of_getElem? (i := 59) (by decide +kernel))) rfl
theorem kw_593 : Cond.instanceMethod yX6_refuse ∈ xg := xg_in (List.mem_append_right _ (List.mem_of_getElem? (i := 593) (by decide +kernel))) rfl
theorem kw_594 : Cond.code yX6_refuse cX6_refuse 2 (some .boolean) ∈ xg := xg_in (List.mem_append_right _ (List.mem_of_getElem? (i := 594) (by decide +kernel))) rfl
theorem kw_60 : Cond.selects RJ0 yJ0_isLatin1_aae02 yJ0_isLatin1_aae02 ∈ xg := xg_in (List.mem_append_right _ (List.mem_of_getElem? (i := 60) (by decide +kernel))) rfl
theorem kw_61 : Cond.code yJ0_isLatin1_aae02 cJ0_isLatin1_aae02 1 (some .boolean) ∈ xg := xg_in (List.mem_append_right _ (List.mem_of_getElem? (i := 61) (by decide +kernel))) rfl
theorem kw_62 : Cond.methodLink RJ0 495 yJ1_charAt_3b067 ∈ xg := xg_in (List.mem_append_right _ (List.mem_of_getElem? (i := 62) (by decide +kernel))) rfl
theorem kw_63 : Cond.static yJ1_charAt_3b067 ∈ xg := xg_in (List.mem_append_right _ (List.mem_of_getElem? (i := 63) (by decide +kernel))) rfl
theorem kw_64 : Cond.code yJ1_charAt_3b067 cJ1_charAt_3b067 2 (some .char) ∈ xg := xg_in (List.mem_append_right _ (List.mem_of_getElem? (i := 64) (by decide +kernel))) rfl
theorem kw_65 : Cond.methodLink RJ1 9 yJ0_checkIndex_df160 ∈ xg := xg_in (List.mem_append_right _ (List.mem_of_getElem? (i := 65) (by decide +kernel))) rfl
theorem kw_66 : Cond.static yJ0_checkIndex_df160 ∈ xg := xg_in (List.mem_append_right _ (List.mem_of_getElem? (i := 66) (by decide +kernel))) rfl
theorem kw_663 : Cond.instanceMethod yX7_isSoul ∈ xg := xg_in (List.mem_append_right _ (List.mem_of_getElem? (i := 663) (by decide +kernel))) rfl
theorem kw_664 : Cond.code yX7_isSoul cX7_isSoul 2 (some .boolean) ∈ xg := xg_in (List.mem_append_right _ (List.mem_of_getElem? (i := 664) (by decide +kernel))) rfl
theorem kw_67 : Cond.code yJ0_checkIndex_df160 cJ0_checkIndex_df160 2 none ∈ xg := xg_in (List.mem_append_right _ (List.mem_of_getElem? (i := 67) (by decide +kernel))) rfl
theorem kw_68 : Cond.fieldLink RJ0 1053 RJ3 "SIOOBE_FORMATTER" "Ljava/util/function/BiFunction;" ∈ xg := xg_in (List.mem_append_right _ (List.mem_of_getElem? (i := 68) (by decide +kernel))) rfl
theorem kw_682 : Cond.instanceMethod yX7_isName ∈ xg := xg_in (List.mem_append_right _ (List.mem_of_getElem? (i := 682) (by decide +kernel))) rfl
theorem kw_683 : Cond.code yX7_isName cX7_isName 2 (some .boolean) ∈ xg := xg_in (List.mem_append_right _ (List.mem_of_getElem? (i := 683) (by decide +kernel))) rfl
theorem kw_696 : Cond.instanceMethod yX6_isSign ∈ xg := xg_in (List.mem_append_right _ (List.mem_of_getElem? (i := 696) (by decide +kernel))) rfl
theorem kw_697 : Cond.code yX6_isSign cX6_isSign 2 (some .boolean) ∈ xg := xg_in (List.mem_append_right _ (List.mem_of_getElem? (i := 697) (by decide +kernel))) rfl
theorem kw_7 : Cond.initialized RX7 ∈ xg := xg_in (List.mem_append_right _ (List.mem_of_getElem? (i := 7) (by decide +kernel))) rfl
theorem kw_70 : Cond.methodLink RJ0 1059 yJ3_checkIndex_8e157 ∈ xg := xg_in (List.mem_append_right _ (List.mem_of_getElem? (i := 70) (by decide +kernel))) rfl
theorem kw_701 : Cond.instanceMethod yX7_copyFrom ∈ xg := xg_in (List.mem_append_right _ (List.mem_of_getElem? (i := 701) (by decide +kernel))) rfl
theorem kw_702 : Cond.code yX7_copyFrom cX7_copyFrom 2 none ∈ xg := xg_in (List.mem_append_right _ (List.mem_of_getElem? (i := 702) (by decide +kernel))) rfl
theorem kw_704 : Cond.static yX11_copyRow_ ∈ xg := xg_in (List.mem_append_right _ (List.mem_of_getElem? (i := 704) (by decide +kernel))) rfl
theorem kw_705 : Cond.code yX11_copyRow_ cX11_copyRow_ 2 none ∈ xg := xg_in (List.mem_append_right _ (List.mem_of_getElem? (i := 705) (by decide +kernel))) rfl
theorem kw_706 : Cond.methodLink RX11 248 Lib.Math.min.name ∈ xg := xg_in (List.mem_append_right _ (List.mem_of_getElem? (i := 706) (by decide +kernel))) rfl
theorem kw_707 : Cond.static Lib.Math.min.name ∈ xg := xg_in (List.mem_append_right _ (List.mem_of_getElem? (i := 707) (by decide +kernel))) rfl
theorem kw_708 : Cond.code Lib.Math.min.name Lib.Math.min.code 2 (some .int) ∈ xg := xg_in (List.mem_append_right _ (List.mem_of_getElem? (i := 708) (by decide +kernel))) rfl
theorem kw_709 : Cond.methodLink RX11 377 arraycopyName ∈ xg := xg_in (List.mem_append_right _ (List.mem_of_getElem? (i := 709) (by decide +kernel))) rfl
theorem kw_71 : Cond.static yJ3_checkIndex_8e157 ∈ xg := xg_in (List.mem_append_right _ (List.mem_of_getElem? (i := 71) (by decide +kernel))) rfl
theorem kw_710 : Cond.static arraycopyName ∈ xg := xg_in (List.mem_append_right _ (List.mem_of_getElem? (i := 710) (by decide +kernel))) rfl
theorem kw_711 : Cond.native arraycopyName ∈ xg := xg_in (List.mem_append_right _ (List.mem_of_getElem? (i := 711) (by decide +kernel))) rfl
theorem kw_713 : Cond.static yX11_copyRow ∈ xg := xg_in (List.mem_append_right _ (List.mem_of_getElem? (i := 713) (by decide +kernel))) rfl
theorem kw_714 : Cond.code yX11_copyRow cX11_copyRow 2 none ∈ xg := xg_in (List.mem_append_right _ (List.mem_of_getElem? (i := 714) (by decide +kernel))) rfl
theorem kw_717 : Cond.instanceMethod yX2_begin ∈ xg := xg_in (List.mem_append_right _ (List.mem_of_getElem? (i := 717) (by decide +kernel))) rfl
theorem kw_718 : Cond.code yX2_begin cX2_begin 2 none ∈ xg := xg_in (List.mem_append_right _ (List.mem_of_getElem? (i := 718) (by decide +kernel))) rfl
theorem kw_72 : Cond.code yJ3_checkIndex_8e157 cJ3_checkIndex_8e157 3 (some .int) ∈ xg := xg_in (List.mem_append_right _ (List.mem_of_getElem? (i := 72) (by decide +kernel))) rfl
theorem kw_733 : Cond.instanceMethod yX9_forget ∈ xg := xg_in (List.mem_append_right _ (List.mem_of_getElem? (i := 733) (by decide +kernel))) rfl
theorem kw_734 : Cond.code yX9_forget cX9_forget 1 none ∈ xg := xg_in (List.mem_append_right _ (List.mem_of_getElem? (i := 734) (by decide +kernel))) rfl
theorem kw_772 : Cond.instanceMethod yX2_freeNames ∈ xg := xg_in (List.mem_append_right _ (List.mem_of_getElem? (i := 772) (by decide +kernel))) rfl
theorem kw_773 : Cond.code yX2_freeNames cX2_freeNames 3 (some .int) ∈ xg := xg_in (List.mem_append_right _ (List.mem_of_getElem? (i := 773) (by decide +kernel))) rfl
theorem kw_774 : Cond.methodLink RX11 219 yX11_sum ∈ xg := xg_in (List.mem_append_right _ (List.mem_of_getElem? (i := 774) (by decide +kernel))) rfl
theorem kw_775 : Cond.static yX11_sum ∈ xg := xg_in (List.mem_append_right _ (List.mem_of_getElem? (i := 775) (by decide +kernel))) rfl
theorem kw_776 : Cond.code yX11_sum cX11_sum 4 (some .int) ∈ xg := xg_in (List.mem_append_right _ (List.mem_of_getElem? (i := 776) (by decide +kernel))) rfl
theorem kw_8 : Cond.initialized RX8 ∈ xg := xg_in (List.mem_append_right _ (List.mem_of_getElem? (i := 8) (by decide +kernel))) rfl
theorem kw_829 : Cond.instanceMethod yX9_keep ∈ xg := xg_in (List.mem_append_right _ (List.mem_of_getElem? (i := 829) (by decide +kernel))) rfl
theorem kw_830 : Cond.code yX9_keep cX9_keep 2 none ∈ xg := xg_in (List.mem_append_right _ (List.mem_of_getElem? (i := 830) (by decide +kernel))) rfl
theorem kw_833 : Cond.instanceMethod yX2_copyFrom ∈ xg := xg_in (List.mem_append_right _ (List.mem_of_getElem? (i := 833) (by decide +kernel))) rfl
theorem kw_834 : Cond.code yX2_copyFrom cX2_copyFrom 2 none ∈ xg := xg_in (List.mem_append_right _ (List.mem_of_getElem? (i := 834) (by decide +kernel))) rfl
theorem kw_837 : Cond.methodLink RX9 29 Lib.Math.min.name ∈ xg := xg_in (List.mem_append_right _ (List.mem_of_getElem? (i := 837) (by decide +kernel))) rfl
theorem kw_873 : Cond.instanceMethod yX2_passMondays ∈ xg := xg_in (List.mem_append_right _ (List.mem_of_getElem? (i := 873) (by decide +kernel))) rfl
theorem kw_874 : Cond.code yX2_passMondays cX2_passMondays 3 none ∈ xg := xg_in (List.mem_append_right _ (List.mem_of_getElem? (i := 874) (by decide +kernel))) rfl
theorem kw_875 : Cond.methodLink RX2 188 yX2_endMonday ∈ xg := xg_in (List.mem_append_right _ (List.mem_of_getElem? (i := 875) (by decide +kernel))) rfl
theorem kw_877 : Cond.instanceMethod yX2_endMonday ∈ xg := xg_in (List.mem_append_right _ (List.mem_of_getElem? (i := 877) (by decide +kernel))) rfl
theorem kw_878 : Cond.code yX2_endMonday cX2_endMonday 4 none ∈ xg := xg_in (List.mem_append_right _ (List.mem_of_getElem? (i := 878) (by decide +kernel))) rfl
theorem kw_895 : Cond.methodLink RX11 233 yX11_areTwo ∈ xg := xg_in (List.mem_append_right _ (List.mem_of_getElem? (i := 895) (by decide +kernel))) rfl
theorem kw_897 : Cond.instanceMethod yX11_areTwo ∈ xg := xg_in (List.mem_append_right _ (List.mem_of_getElem? (i := 897) (by decide +kernel))) rfl
theorem kw_898 : Cond.code yX11_areTwo cX11_areTwo 3 (some .boolean) ∈ xg := xg_in (List.mem_append_right _ (List.mem_of_getElem? (i := 898) (by decide +kernel))) rfl
theorem kw_9 : Cond.initialized RX2 ∈ xg := xg_in (List.mem_append_right _ (List.mem_of_getElem? (i := 9) (by decide +kernel))) rfl
theorem kw_939 : Cond.instanceMethod yX9_takeBack ∈ xg := xg_in (List.mem_append_right _ (List.mem_of_getElem? (i := 939) (by decide +kernel))) rfl
theorem kw_94 : Cond.fieldLink RX6 11 RX6 "bytes" "[B" ∈ xg := xg_in (List.mem_append_right _ (List.mem_of_getElem? (i := 94) (by decide +kernel))) rfl
theorem kw_940 : Cond.code yX9_takeBack cX9_takeBack 2 (some .boolean) ∈ xg := xg_in (List.mem_append_right _ (List.mem_of_getElem? (i := 940) (by decide +kernel))) rfl
theorem kw_95 : Cond.fieldLink RX6 15 RX6 "ownWords" "[J" ∈ xg := xg_in (List.mem_append_right _ (List.mem_of_getElem? (i := 95) (by decide +kernel))) rfl
theorem kw_96 : Cond.fieldLink RX6 35 RX6 "ownCount" "I" ∈ xg := xg_in (List.mem_append_right _ (List.mem_of_getElem? (i := 96) (by decide +kernel))) rfl
theorem kw_98 : Cond.fieldLink RX6 43 RX6 "length" "I" ∈ xg := xg_in (List.mem_append_right _ (List.mem_of_getElem? (i := 98) (by decide +kernel))) rfl
theorem kw_982 : Cond.instanceMethod yX10_findMondays ∈ xg := xg_in (List.mem_append_right _ (List.mem_of_getElem? (i := 982) (by decide +kernel))) rfl
theorem kw_983 : Cond.code yX10_findMondays cX10_findMondays 3 (some .int) ∈ xg := xg_in (List.mem_append_right _ (List.mem_of_getElem? (i := 983) (by decide +kernel))) rfl
theorem kw_984 : Cond.methodLink RX10 30 yX10_point ∈ xg := xg_in (List.mem_append_right _ (List.mem_of_getElem? (i := 984) (by decide +kernel))) rfl
theorem kw_986 : Cond.instanceMethod yX10_point ∈ xg := xg_in (List.mem_append_right _ (List.mem_of_getElem? (i := 986) (by decide +kernel))) rfl
theorem kw_987 : Cond.code yX10_point cX10_point 4 (some .boolean) ∈ xg := xg_in (List.mem_append_right _ (List.mem_of_getElem? (i := 987) (by decide +kernel))) rfl
theorem kw_99 : Cond.fieldLink RX6 45 RX6 "most" "I" ∈ xg := xg_in (List.mem_append_right _ (List.mem_of_getElem? (i := 99) (by decide +kernel))) rfl
