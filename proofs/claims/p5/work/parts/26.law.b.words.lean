set_option maxRecDepth 100000 in
theorem kn_1295 : Cond.castable "java/util/NoSuchElementException" "java/util/NoSuchElementException" ∈ xn := xn_in (List.mem_append_right _ (List.mem_append_right _ (List.mem_append_right _ (List.mem_append_right _ (List.mem_append_right _ (List.mem_append_right _ (List.mem_append_left _ (List.mem_of_getElem? (i := 95) rfl)))))))) rfl
set_option maxRecDepth 100000 in
theorem kn_1354 : Cond.methodLinkNest RX11 181 yX2_isAlive "NamesAgain" ∈ xn := xn_in (List.mem_append_right _ (List.mem_append_right _ (List.mem_append_right _ (List.mem_append_right _ (List.mem_append_right _ (List.mem_append_right _ (List.mem_append_left _ (List.mem_of_getElem? (i := 154) rfl)))))))) rfl
set_option maxRecDepth 100000 in
theorem kn_1355 : Cond.methodLinkNest RX11 187 yX2_waitAhead "NamesAgain" ∈ xn := xn_in (List.mem_append_right _ (List.mem_append_right _ (List.mem_append_right _ (List.mem_append_right _ (List.mem_append_right _ (List.mem_append_right _ (List.mem_append_left _ (List.mem_of_getElem? (i := 155) rfl)))))))) rfl
set_option maxRecDepth 100000 in
theorem kn_1356 : Cond.methodLinkNest RX11 190 yX2_hasChanged "NamesAgain" ∈ xn := xn_in (List.mem_append_right _ (List.mem_append_right _ (List.mem_append_right _ (List.mem_append_right _ (List.mem_append_right _ (List.mem_append_right _ (List.mem_append_left _ (List.mem_of_getElem? (i := 156) rfl)))))))) rfl
set_option maxRecDepth 100000 in
theorem kn_1357 : Cond.methodLinkNest RX11 193 yX2_hasFled "NamesAgain" ∈ xn := xn_in (List.mem_append_right _ (List.mem_append_right _ (List.mem_append_right _ (List.mem_append_right _ (List.mem_append_right _ (List.mem_append_right _ (List.mem_append_left _ (List.mem_of_getElem? (i := 157) rfl)))))))) rfl
set_option maxRecDepth 100000 in
theorem kn_154 : Cond.methodLinkNest RX11 18 yX7_init "NamesAgain" ∈ xn := xn_in (List.mem_append_right _ (List.mem_append_left _ (List.mem_of_getElem? (i := 154) rfl))) rfl
set_option maxRecDepth 100000 in
theorem kn_224 : Cond.methodLinkNest RX11 28 yX8_init "NamesAgain" ∈ xn := xn_in (List.mem_append_right _ (List.mem_append_left _ (List.mem_of_getElem? (i := 224) rfl))) rfl
set_option maxRecDepth 100000 in
theorem kn_241 : Cond.methodLinkNest RX11 37 yX2_init "NamesAgain" ∈ xn := xn_in (List.mem_append_right _ (List.mem_append_right _ (List.mem_append_left _ (List.mem_of_getElem? (i := 1) rfl)))) rfl
set_option maxRecDepth 100000 in
theorem kn_315 : Cond.methodLinkNest RX11 49 yX9_init "NamesAgain" ∈ xn := xn_in (List.mem_append_right _ (List.mem_append_right _ (List.mem_append_left _ (List.mem_of_getElem? (i := 75) rfl)))) rfl
set_option maxRecDepth 100000 in
theorem kn_321 : Cond.methodLinkNest RX9 15 yX2_init "NamesAgain" ∈ xn := xn_in (List.mem_append_right _ (List.mem_append_right _ (List.mem_append_left _ (List.mem_of_getElem? (i := 81) rfl)))) rfl
set_option maxRecDepth 100000 in
theorem kn_335 : Cond.methodLinkNest RX11 56 yX4_init "NamesAgain" ∈ xn := xn_in (List.mem_append_right _ (List.mem_append_right _ (List.mem_append_left _ (List.mem_of_getElem? (i := 95) rfl)))) rfl
set_option maxRecDepth 100000 in
theorem kn_35 : Cond.methodLinkNest RX11 9 yX6_init "NamesAgain" ∈ xn := xn_in (List.mem_append_right _ (List.mem_append_left _ (List.mem_of_getElem? (i := 35) rfl))) rfl
set_option maxRecDepth 100000 in
theorem kn_380 : Cond.methodLinkNest RX11 63 yX5_init "NamesAgain" ∈ xn := xn_in (List.mem_append_right _ (List.mem_append_right _ (List.mem_append_left _ (List.mem_of_getElem? (i := 140) rfl)))) rfl
set_option maxRecDepth 100000 in
theorem kn_412 : Cond.methodLinkNest RX11 73 yX10_init "NamesAgain" ∈ xn := xn_in (List.mem_append_right _ (List.mem_append_right _ (List.mem_append_left _ (List.mem_of_getElem? (i := 172) rfl)))) rfl
set_option maxRecDepth 100000 in
theorem kn_434 : Cond.methodLinkNest RX11 82 yX3_init "NamesAgain" ∈ xn := xn_in (List.mem_append_right _ (List.mem_append_right _ (List.mem_append_left _ (List.mem_of_getElem? (i := 194) rfl)))) rfl
set_option maxRecDepth 100000 in
theorem kn_458 : Cond.methodLinkNest RX11 89 yX0_init "NamesAgain" ∈ xn := xn_in (List.mem_append_right _ (List.mem_append_right _ (List.mem_append_left _ (List.mem_of_getElem? (i := 218) rfl)))) rfl
set_option maxRecDepth 100000 in
theorem kn_470 : Cond.methodLinkNest RX11 100 yX1_init "NamesAgain" ∈ xn := xn_in (List.mem_append_right _ (List.mem_append_right _ (List.mem_append_left _ (List.mem_of_getElem? (i := 230) rfl)))) rfl
set_option maxRecDepth 100000 in
theorem kn_475 : Cond.methodLinkNest RX1 9 yX7_init "NamesAgain" ∈ xn := xn_in (List.mem_append_right _ (List.mem_append_right _ (List.mem_append_left _ (List.mem_of_getElem? (i := 235) rfl)))) rfl
set_option maxRecDepth 100000 in
theorem kn_477 : Cond.methodLinkNest RX1 18 yX2_init "NamesAgain" ∈ xn := xn_in (List.mem_append_right _ (List.mem_append_right _ (List.mem_append_left _ (List.mem_of_getElem? (i := 237) rfl)))) rfl
set_option maxRecDepth 100000 in
theorem kn_479 : Cond.methodLinkNest RX1 27 yX5_init "NamesAgain" ∈ xn := xn_in (List.mem_append_right _ (List.mem_append_right _ (List.mem_append_left _ (List.mem_of_getElem? (i := 239) rfl)))) rfl
set_option maxRecDepth 100000 in
theorem ks_0 : Cond.selects RX6 yX6_keepOwn yX6_keepOwn ∈ xg := xg_in (List.mem_append_left _ (List.mem_of_getElem? (i := 0) rfl)) rfl
set_option maxRecDepth 100000 in
theorem kw_0 : Cond.initialized RL ∈ xg := xg_in (List.mem_append_right _ (List.mem_append_left _ (List.mem_of_getElem? (i := 0) rfl))) rfl
set_option maxRecDepth 100000 in
theorem kw_1000 : Cond.methodLink RL 113 yX11_swaps ∈ xg := xg_in (List.mem_append_right _ (List.mem_append_right _ (List.mem_append_right _ (List.mem_append_right _ (List.mem_append_right _ (List.mem_append_left _ (List.mem_of_getElem? (i := 40) rfl))))))) rfl
set_option maxRecDepth 100000 in
theorem kw_1001 : Cond.instanceMethod yX11_swaps ∈ xg := xg_in (List.mem_append_right _ (List.mem_append_right _ (List.mem_append_right _ (List.mem_append_right _ (List.mem_append_right _ (List.mem_append_left _ (List.mem_of_getElem? (i := 41) rfl))))))) rfl
set_option maxRecDepth 100000 in
theorem kw_1002 : Cond.selects RX11 yX11_swaps yX11_swaps ∈ xg := xg_in (List.mem_append_right _ (List.mem_append_right _ (List.mem_append_right _ (List.mem_append_right _ (List.mem_append_right _ (List.mem_append_left _ (List.mem_of_getElem? (i := 42) rfl))))))) rfl
set_option maxRecDepth 100000 in
theorem kw_1003 : Cond.code yX11_swaps cX11_swaps 1 (some .int) ∈ xg := xg_in (List.mem_append_right _ (List.mem_append_right _ (List.mem_append_right _ (List.mem_append_right _ (List.mem_append_right _ (List.mem_append_left _ (List.mem_of_getElem? (i := 43) rfl))))))) rfl
set_option maxRecDepth 100000 in
theorem kw_1012 : Cond.methodLink RL 117 yX11_partner ∈ xg := xg_in (List.mem_append_right _ (List.mem_append_right _ (List.mem_append_right _ (List.mem_append_right _ (List.mem_append_right _ (List.mem_append_left _ (List.mem_of_getElem? (i := 52) rfl))))))) rfl
set_option maxRecDepth 100000 in
theorem kw_1013 : Cond.instanceMethod yX11_partner ∈ xg := xg_in (List.mem_append_right _ (List.mem_append_right _ (List.mem_append_right _ (List.mem_append_right _ (List.mem_append_right _ (List.mem_append_left _ (List.mem_of_getElem? (i := 53) rfl))))))) rfl
set_option maxRecDepth 100000 in
theorem kw_1014 : Cond.selects RX11 yX11_partner yX11_partner ∈ xg := xg_in (List.mem_append_right _ (List.mem_append_right _ (List.mem_append_right _ (List.mem_append_right _ (List.mem_append_right _ (List.mem_append_left _ (List.mem_of_getElem? (i := 54) rfl))))))) rfl
set_option maxRecDepth 100000 in
theorem kw_1015 : Cond.code yX11_partner cX11_partner 2 (some .int) ∈ xg := xg_in (List.mem_append_right _ (List.mem_append_right _ (List.mem_append_right _ (List.mem_append_right _ (List.mem_append_right _ (List.mem_append_left _ (List.mem_of_getElem? (i := 55) rfl))))))) rfl
set_option maxRecDepth 100000 in
theorem kw_1020 : Cond.methodLink RL 121 yX11_bidder ∈ xg := xg_in (List.mem_append_right _ (List.mem_append_right _ (List.mem_append_right _ (List.mem_append_right _ (List.mem_append_right _ (List.mem_append_left _ (List.mem_of_getElem? (i := 60) rfl))))))) rfl
set_option maxRecDepth 100000 in
theorem kw_1021 : Cond.instanceMethod yX11_bidder ∈ xg := xg_in (List.mem_append_right _ (List.mem_append_right _ (List.mem_append_right _ (List.mem_append_right _ (List.mem_append_right _ (List.mem_append_left _ (List.mem_of_getElem? (i := 61) rfl))))))) rfl
set_option maxRecDepth 100000 in
theorem kw_1022 : Cond.selects RX11 yX11_bidder yX11_bidder ∈ xg := xg_in (List.mem_append_right _ (List.mem_append_right _ (List.mem_append_right _ (List.mem_append_right _ (List.mem_append_right _ (List.mem_append_left _ (List.mem_of_getElem? (i := 62) rfl))))))) rfl
set_option maxRecDepth 100000 in
theorem kw_1023 : Cond.code yX11_bidder cX11_bidder 2 (some .int) ∈ xg := xg_in (List.mem_append_right _ (List.mem_append_right _ (List.mem_append_right _ (List.mem_append_right _ (List.mem_append_right _ (List.mem_append_left _ (List.mem_of_getElem? (i := 63) rfl))))))) rfl
set_option maxRecDepth 100000 in
theorem kw_1031 : Cond.methodLink RL 125 yX11_bid ∈ xg := xg_in (List.mem_append_right _ (List.mem_append_right _ (List.mem_append_right _ (List.mem_append_right _ (List.mem_append_right _ (List.mem_append_left _ (List.mem_of_getElem? (i := 71) rfl))))))) rfl
set_option maxRecDepth 100000 in
theorem kw_1032 : Cond.instanceMethod yX11_bid ∈ xg := xg_in (List.mem_append_right _ (List.mem_append_right _ (List.mem_append_right _ (List.mem_append_right _ (List.mem_append_right _ (List.mem_append_left _ (List.mem_of_getElem? (i := 72) rfl))))))) rfl
set_option maxRecDepth 100000 in
theorem kw_1033 : Cond.selects RX11 yX11_bid yX11_bid ∈ xg := xg_in (List.mem_append_right _ (List.mem_append_right _ (List.mem_append_right _ (List.mem_append_right _ (List.mem_append_right _ (List.mem_append_left _ (List.mem_of_getElem? (i := 73) rfl))))))) rfl
set_option maxRecDepth 100000 in
theorem kw_1034 : Cond.code yX11_bid cX11_bid 2 (some .int) ∈ xg := xg_in (List.mem_append_right _ (List.mem_append_right _ (List.mem_append_right _ (List.mem_append_right _ (List.mem_append_right _ (List.mem_append_left _ (List.mem_of_getElem? (i := 74) rfl))))))) rfl
set_option maxRecDepth 100000 in
theorem kw_1035 : Cond.methodLink RL 129 yX11_must ∈ xg := xg_in (List.mem_append_right _ (List.mem_append_right _ (List.mem_append_right _ (List.mem_append_right _ (List.mem_append_right _ (List.mem_append_left _ (List.mem_of_getElem? (i := 75) rfl))))))) rfl
set_option maxRecDepth 100000 in
theorem kw_1036 : Cond.instanceMethod yX11_must ∈ xg := xg_in (List.mem_append_right _ (List.mem_append_right _ (List.mem_append_right _ (List.mem_append_right _ (List.mem_append_right _ (List.mem_append_left _ (List.mem_of_getElem? (i := 76) rfl))))))) rfl
set_option maxRecDepth 100000 in
theorem kw_1037 : Cond.selects RX11 yX11_must yX11_must ∈ xg := xg_in (List.mem_append_right _ (List.mem_append_right _ (List.mem_append_right _ (List.mem_append_right _ (List.mem_append_right _ (List.mem_append_left _ (List.mem_of_getElem? (i := 77) rfl))))))) rfl
set_option maxRecDepth 100000 in
theorem kw_1038 : Cond.code yX11_must cX11_must 4 (some .int) ∈ xg := xg_in (List.mem_append_right _ (List.mem_append_right _ (List.mem_append_right _ (List.mem_append_right _ (List.mem_append_right _ (List.mem_append_left _ (List.mem_of_getElem? (i := 78) rfl))))))) rfl
set_option maxRecDepth 100000 in
theorem kw_1039 : Cond.methodLink RL 133 yX11_ledger ∈ xg := xg_in (List.mem_append_right _ (List.mem_append_right _ (List.mem_append_right _ (List.mem_append_right _ (List.mem_append_right _ (List.mem_append_left _ (List.mem_of_getElem? (i := 79) rfl))))))) rfl
set_option maxRecDepth 100000 in
theorem kw_1040 : Cond.instanceMethod yX11_ledger ∈ xg := xg_in (List.mem_append_right _ (List.mem_append_right _ (List.mem_append_right _ (List.mem_append_right _ (List.mem_append_right _ (List.mem_append_left _ (List.mem_of_getElem? (i := 80) rfl))))))) rfl
set_option maxRecDepth 100000 in
theorem kw_1041 : Cond.selects RX11 yX11_ledger yX11_ledger ∈ xg := xg_in (List.mem_append_right _ (List.mem_append_right _ (List.mem_append_right _ (List.mem_append_right _ (List.mem_append_right _ (List.mem_append_left _ (List.mem_of_getElem? (i := 81) rfl))))))) rfl
set_option maxRecDepth 100000 in
theorem kw_1042 : Cond.code yX11_ledger cX11_ledger 2 (some .int) ∈ xg := xg_in (List.mem_append_right _ (List.mem_append_right _ (List.mem_append_right _ (List.mem_append_right _ (List.mem_append_right _ (List.mem_append_left _ (List.mem_of_getElem? (i := 82) rfl))))))) rfl
set_option maxRecDepth 100000 in
theorem kw_1055 : Cond.methodLink RL 137 yX11_votes ∈ xg := xg_in (List.mem_append_right _ (List.mem_append_right _ (List.mem_append_right _ (List.mem_append_right _ (List.mem_append_right _ (List.mem_append_left _ (List.mem_of_getElem? (i := 95) rfl))))))) rfl
set_option maxRecDepth 100000 in
theorem kw_1056 : Cond.instanceMethod yX11_votes ∈ xg := xg_in (List.mem_append_right _ (List.mem_append_right _ (List.mem_append_right _ (List.mem_append_right _ (List.mem_append_right _ (List.mem_append_left _ (List.mem_of_getElem? (i := 96) rfl))))))) rfl
set_option maxRecDepth 100000 in
theorem kw_1057 : Cond.selects RX11 yX11_votes yX11_votes ∈ xg := xg_in (List.mem_append_right _ (List.mem_append_right _ (List.mem_append_right _ (List.mem_append_right _ (List.mem_append_right _ (List.mem_append_left _ (List.mem_of_getElem? (i := 97) rfl))))))) rfl
set_option maxRecDepth 100000 in
theorem kw_1058 : Cond.code yX11_votes cX11_votes 2 (some .int) ∈ xg := xg_in (List.mem_append_right _ (List.mem_append_right _ (List.mem_append_right _ (List.mem_append_right _ (List.mem_append_right _ (List.mem_append_left _ (List.mem_of_getElem? (i := 98) rfl))))))) rfl
set_option maxRecDepth 100000 in
theorem kw_1067 : Cond.methodLink RL 141 yX11_party ∈ xg := xg_in (List.mem_append_right _ (List.mem_append_right _ (List.mem_append_right _ (List.mem_append_right _ (List.mem_append_right _ (List.mem_append_left _ (List.mem_of_getElem? (i := 107) rfl))))))) rfl
set_option maxRecDepth 100000 in
theorem kw_1068 : Cond.instanceMethod yX11_party ∈ xg := xg_in (List.mem_append_right _ (List.mem_append_right _ (List.mem_append_right _ (List.mem_append_right _ (List.mem_append_right _ (List.mem_append_left _ (List.mem_of_getElem? (i := 108) rfl))))))) rfl
set_option maxRecDepth 100000 in
theorem kw_1069 : Cond.selects RX11 yX11_party yX11_party ∈ xg := xg_in (List.mem_append_right _ (List.mem_append_right _ (List.mem_append_right _ (List.mem_append_right _ (List.mem_append_right _ (List.mem_append_left _ (List.mem_of_getElem? (i := 109) rfl))))))) rfl
set_option maxRecDepth 100000 in
theorem kw_1070 : Cond.code yX11_party cX11_party 5 (some .int) ∈ xg := xg_in (List.mem_append_right _ (List.mem_append_right _ (List.mem_append_right _ (List.mem_append_right _ (List.mem_append_right _ (List.mem_append_left _ (List.mem_of_getElem? (i := 110) rfl))))))) rfl
set_option maxRecDepth 100000 in
theorem kw_1077 : Cond.methodLink RL 145 yX11_least ∈ xg := xg_in (List.mem_append_right _ (List.mem_append_right _ (List.mem_append_right _ (List.mem_append_right _ (List.mem_append_right _ (List.mem_append_left _ (List.mem_of_getElem? (i := 117) rfl))))))) rfl
set_option maxRecDepth 100000 in
theorem kw_1078 : Cond.instanceMethod yX11_least ∈ xg := xg_in (List.mem_append_right _ (List.mem_append_right _ (List.mem_append_right _ (List.mem_append_right _ (List.mem_append_right _ (List.mem_append_left _ (List.mem_of_getElem? (i := 118) rfl))))))) rfl
set_option maxRecDepth 100000 in
theorem kw_1079 : Cond.selects RX11 yX11_least yX11_least ∈ xg := xg_in (List.mem_append_right _ (List.mem_append_right _ (List.mem_append_right _ (List.mem_append_right _ (List.mem_append_right _ (List.mem_append_left _ (List.mem_of_getElem? (i := 119) rfl))))))) rfl
set_option maxRecDepth 100000 in
theorem kw_1080 : Cond.code yX11_least cX11_least 2 (some .int) ∈ xg := xg_in (List.mem_append_right _ (List.mem_append_right _ (List.mem_append_right _ (List.mem_append_right _ (List.mem_append_right _ (List.mem_append_left _ (List.mem_of_getElem? (i := 120) rfl))))))) rfl
set_option maxRecDepth 100000 in
theorem kw_1093 : Cond.methodLink RL 149 yX11_cheapest ∈ xg := xg_in (List.mem_append_right _ (List.mem_append_right _ (List.mem_append_right _ (List.mem_append_right _ (List.mem_append_right _ (List.mem_append_left _ (List.mem_of_getElem? (i := 133) rfl))))))) rfl
set_option maxRecDepth 100000 in
theorem kw_1094 : Cond.instanceMethod yX11_cheapest ∈ xg := xg_in (List.mem_append_right _ (List.mem_append_right _ (List.mem_append_right _ (List.mem_append_right _ (List.mem_append_right _ (List.mem_append_left _ (List.mem_of_getElem? (i := 134) rfl))))))) rfl
set_option maxRecDepth 100000 in
theorem kw_1095 : Cond.selects RX11 yX11_cheapest yX11_cheapest ∈ xg := xg_in (List.mem_append_right _ (List.mem_append_right _ (List.mem_append_right _ (List.mem_append_right _ (List.mem_append_right _ (List.mem_append_left _ (List.mem_of_getElem? (i := 135) rfl))))))) rfl
set_option maxRecDepth 100000 in
theorem kw_1096 : Cond.code yX11_cheapest cX11_cheapest 1 (some .int) ∈ xg := xg_in (List.mem_append_right _ (List.mem_append_right _ (List.mem_append_right _ (List.mem_append_right _ (List.mem_append_right _ (List.mem_append_left _ (List.mem_of_getElem? (i := 136) rfl))))))) rfl
set_option maxRecDepth 100000 in
theorem kw_1097 : Cond.methodLink RL 153 yX11_feasts ∈ xg := xg_in (List.mem_append_right _ (List.mem_append_right _ (List.mem_append_right _ (List.mem_append_right _ (List.mem_append_right _ (List.mem_append_left _ (List.mem_of_getElem? (i := 137) rfl))))))) rfl
set_option maxRecDepth 100000 in
theorem kw_1098 : Cond.instanceMethod yX11_feasts ∈ xg := xg_in (List.mem_append_right _ (List.mem_append_right _ (List.mem_append_right _ (List.mem_append_right _ (List.mem_append_right _ (List.mem_append_left _ (List.mem_of_getElem? (i := 138) rfl))))))) rfl
set_option maxRecDepth 100000 in
theorem kw_1099 : Cond.selects RX11 yX11_feasts yX11_feasts ∈ xg := xg_in (List.mem_append_right _ (List.mem_append_right _ (List.mem_append_right _ (List.mem_append_right _ (List.mem_append_right _ (List.mem_append_left _ (List.mem_of_getElem? (i := 139) rfl))))))) rfl
set_option maxRecDepth 100000 in
theorem kw_1100 : Cond.code yX11_feasts cX11_feasts 6 (some .int) ∈ xg := xg_in (List.mem_append_right _ (List.mem_append_right _ (List.mem_append_right _ (List.mem_append_right _ (List.mem_append_right _ (List.mem_append_left _ (List.mem_of_getElem? (i := 140) rfl))))))) rfl
set_option maxRecDepth 100000 in
theorem kw_1102 : Cond.methodLink RL 157 yX11_queue ∈ xg := xg_in (List.mem_append_right _ (List.mem_append_right _ (List.mem_append_right _ (List.mem_append_right _ (List.mem_append_right _ (List.mem_append_left _ (List.mem_of_getElem? (i := 142) rfl))))))) rfl
set_option maxRecDepth 100000 in
theorem kw_1103 : Cond.instanceMethod yX11_queue ∈ xg := xg_in (List.mem_append_right _ (List.mem_append_right _ (List.mem_append_right _ (List.mem_append_right _ (List.mem_append_right _ (List.mem_append_left _ (List.mem_of_getElem? (i := 143) rfl))))))) rfl
set_option maxRecDepth 100000 in
theorem kw_1104 : Cond.selects RX11 yX11_queue yX11_queue ∈ xg := xg_in (List.mem_append_right _ (List.mem_append_right _ (List.mem_append_right _ (List.mem_append_right _ (List.mem_append_right _ (List.mem_append_left _ (List.mem_of_getElem? (i := 144) rfl))))))) rfl
set_option maxRecDepth 100000 in
theorem kw_1105 : Cond.code yX11_queue cX11_queue 2 (some .int) ∈ xg := xg_in (List.mem_append_right _ (List.mem_append_right _ (List.mem_append_right _ (List.mem_append_right _ (List.mem_append_right _ (List.mem_append_left _ (List.mem_of_getElem? (i := 145) rfl))))))) rfl
set_option maxRecDepth 100000 in
theorem kw_1106 : Cond.methodLink RL 161 yX11_drawn ∈ xg := xg_in (List.mem_append_right _ (List.mem_append_right _ (List.mem_append_right _ (List.mem_append_right _ (List.mem_append_right _ (List.mem_append_left _ (List.mem_of_getElem? (i := 146) rfl))))))) rfl
set_option maxRecDepth 100000 in
theorem kw_1107 : Cond.instanceMethod yX11_drawn ∈ xg := xg_in (List.mem_append_right _ (List.mem_append_right _ (List.mem_append_right _ (List.mem_append_right _ (List.mem_append_right _ (List.mem_append_left _ (List.mem_of_getElem? (i := 147) rfl))))))) rfl
set_option maxRecDepth 100000 in
theorem kw_1108 : Cond.selects RX11 yX11_drawn yX11_drawn ∈ xg := xg_in (List.mem_append_right _ (List.mem_append_right _ (List.mem_append_right _ (List.mem_append_right _ (List.mem_append_right _ (List.mem_append_left _ (List.mem_of_getElem? (i := 148) rfl))))))) rfl
set_option maxRecDepth 100000 in
theorem kw_1109 : Cond.code yX11_drawn cX11_drawn 3 (some .int) ∈ xg := xg_in (List.mem_append_right _ (List.mem_append_right _ (List.mem_append_right _ (List.mem_append_right _ (List.mem_append_right _ (List.mem_append_left _ (List.mem_of_getElem? (i := 149) rfl))))))) rfl
set_option maxRecDepth 100000 in
theorem kw_1128 : Cond.methodLink RL 165 yX11_odds ∈ xg := xg_in (List.mem_append_right _ (List.mem_append_right _ (List.mem_append_right _ (List.mem_append_right _ (List.mem_append_right _ (List.mem_append_left _ (List.mem_of_getElem? (i := 168) rfl))))))) rfl
set_option maxRecDepth 100000 in
theorem kw_1129 : Cond.instanceMethod yX11_odds ∈ xg := xg_in (List.mem_append_right _ (List.mem_append_right _ (List.mem_append_right _ (List.mem_append_right _ (List.mem_append_right _ (List.mem_append_left _ (List.mem_of_getElem? (i := 169) rfl))))))) rfl
set_option maxRecDepth 100000 in
theorem kw_1130 : Cond.selects RX11 yX11_odds yX11_odds ∈ xg := xg_in (List.mem_append_right _ (List.mem_append_right _ (List.mem_append_right _ (List.mem_append_right _ (List.mem_append_right _ (List.mem_append_left _ (List.mem_of_getElem? (i := 170) rfl))))))) rfl
set_option maxRecDepth 100000 in
theorem kw_1131 : Cond.code yX11_odds cX11_odds 6 (some .int) ∈ xg := xg_in (List.mem_append_right _ (List.mem_append_right _ (List.mem_append_right _ (List.mem_append_right _ (List.mem_append_right _ (List.mem_append_left _ (List.mem_of_getElem? (i := 171) rfl))))))) rfl
set_option maxRecDepth 100000 in
theorem kw_1133 : Cond.methodLink RL 170 yX11_roll ∈ xg := xg_in (List.mem_append_right _ (List.mem_append_right _ (List.mem_append_right _ (List.mem_append_right _ (List.mem_append_right _ (List.mem_append_left _ (List.mem_of_getElem? (i := 173) rfl))))))) rfl
set_option maxRecDepth 100000 in
theorem kw_1134 : Cond.instanceMethod yX11_roll ∈ xg := xg_in (List.mem_append_right _ (List.mem_append_right _ (List.mem_append_right _ (List.mem_append_right _ (List.mem_append_right _ (List.mem_append_left _ (List.mem_of_getElem? (i := 174) rfl))))))) rfl
set_option maxRecDepth 100000 in
theorem kw_1135 : Cond.selects RX11 yX11_roll yX11_roll ∈ xg := xg_in (List.mem_append_right _ (List.mem_append_right _ (List.mem_append_right _ (List.mem_append_right _ (List.mem_append_right _ (List.mem_append_left _ (List.mem_of_getElem? (i := 175) rfl))))))) rfl
set_option maxRecDepth 100000 in
theorem kw_1136 : Cond.code yX11_roll cX11_roll 3 (some .int) ∈ xg := xg_in (List.mem_append_right _ (List.mem_append_right _ (List.mem_append_right _ (List.mem_append_right _ (List.mem_append_right _ (List.mem_append_left _ (List.mem_of_getElem? (i := 176) rfl))))))) rfl
set_option maxRecDepth 100000 in
theorem kw_1177 : Cond.methodLink RL 174 yX11_rolled ∈ xg := xg_in (List.mem_append_right _ (List.mem_append_right _ (List.mem_append_right _ (List.mem_append_right _ (List.mem_append_right _ (List.mem_append_left _ (List.mem_of_getElem? (i := 217) rfl))))))) rfl
set_option maxRecDepth 100000 in
theorem kw_1178 : Cond.instanceMethod yX11_rolled ∈ xg := xg_in (List.mem_append_right _ (List.mem_append_right _ (List.mem_append_right _ (List.mem_append_right _ (List.mem_append_right _ (List.mem_append_left _ (List.mem_of_getElem? (i := 218) rfl))))))) rfl
set_option maxRecDepth 100000 in
theorem kw_1179 : Cond.selects RX11 yX11_rolled yX11_rolled ∈ xg := xg_in (List.mem_append_right _ (List.mem_append_right _ (List.mem_append_right _ (List.mem_append_right _ (List.mem_append_right _ (List.mem_append_left _ (List.mem_of_getElem? (i := 219) rfl))))))) rfl
set_option maxRecDepth 100000 in
theorem kw_1180 : Cond.code yX11_rolled cX11_rolled 2 (some .int) ∈ xg := xg_in (List.mem_append_right _ (List.mem_append_right _ (List.mem_append_right _ (List.mem_append_right _ (List.mem_append_right _ (List.mem_append_left _ (List.mem_of_getElem? (i := 220) rfl))))))) rfl
set_option maxRecDepth 100000 in
theorem kw_1181 : Cond.methodLink RL 178 yX11_sentence ∈ xg := xg_in (List.mem_append_right _ (List.mem_append_right _ (List.mem_append_right _ (List.mem_append_right _ (List.mem_append_right _ (List.mem_append_left _ (List.mem_of_getElem? (i := 221) rfl))))))) rfl
set_option maxRecDepth 100000 in
theorem kw_1182 : Cond.instanceMethod yX11_sentence ∈ xg := xg_in (List.mem_append_right _ (List.mem_append_right _ (List.mem_append_right _ (List.mem_append_right _ (List.mem_append_right _ (List.mem_append_left _ (List.mem_of_getElem? (i := 222) rfl))))))) rfl
set_option maxRecDepth 100000 in
theorem kw_1183 : Cond.selects RX11 yX11_sentence yX11_sentence ∈ xg := xg_in (List.mem_append_right _ (List.mem_append_right _ (List.mem_append_right _ (List.mem_append_right _ (List.mem_append_right _ (List.mem_append_left _ (List.mem_of_getElem? (i := 223) rfl))))))) rfl
set_option maxRecDepth 100000 in
theorem kw_1184 : Cond.code yX11_sentence cX11_sentence 2 (some .int) ∈ xg := xg_in (List.mem_append_right _ (List.mem_append_right _ (List.mem_append_right _ (List.mem_append_right _ (List.mem_append_right _ (List.mem_append_left _ (List.mem_of_getElem? (i := 224) rfl))))))) rfl
set_option maxRecDepth 100000 in
theorem kw_1239 : Cond.methodLink RL 182 yX11_said ∈ xg := xg_in (List.mem_append_right _ (List.mem_append_right _ (List.mem_append_right _ (List.mem_append_right _ (List.mem_append_right _ (List.mem_append_right _ (List.mem_append_left _ (List.mem_of_getElem? (i := 39) rfl)))))))) rfl
set_option maxRecDepth 100000 in
theorem kw_1240 : Cond.instanceMethod yX11_said ∈ xg := xg_in (List.mem_append_right _ (List.mem_append_right _ (List.mem_append_right _ (List.mem_append_right _ (List.mem_append_right _ (List.mem_append_right _ (List.mem_append_left _ (List.mem_of_getElem? (i := 40) rfl)))))))) rfl
set_option maxRecDepth 100000 in
theorem kw_1241 : Cond.selects RX11 yX11_said yX11_said ∈ xg := xg_in (List.mem_append_right _ (List.mem_append_right _ (List.mem_append_right _ (List.mem_append_right _ (List.mem_append_right _ (List.mem_append_right _ (List.mem_append_left _ (List.mem_of_getElem? (i := 41) rfl)))))))) rfl
set_option maxRecDepth 100000 in
theorem kw_1242 : Cond.code yX11_said cX11_said 3 (some .int) ∈ xg := xg_in (List.mem_append_right _ (List.mem_append_right _ (List.mem_append_right _ (List.mem_append_right _ (List.mem_append_right _ (List.mem_append_right _ (List.mem_append_left _ (List.mem_of_getElem? (i := 42) rfl)))))))) rfl
set_option maxRecDepth 100000 in
theorem kw_1273 : Cond.methodLink RL 186 yX11_image ∈ xg := xg_in (List.mem_append_right _ (List.mem_append_right _ (List.mem_append_right _ (List.mem_append_right _ (List.mem_append_right _ (List.mem_append_right _ (List.mem_append_left _ (List.mem_of_getElem? (i := 73) rfl)))))))) rfl
set_option maxRecDepth 100000 in
theorem kw_1274 : Cond.instanceMethod yX11_image ∈ xg := xg_in (List.mem_append_right _ (List.mem_append_right _ (List.mem_append_right _ (List.mem_append_right _ (List.mem_append_right _ (List.mem_append_right _ (List.mem_append_left _ (List.mem_of_getElem? (i := 74) rfl)))))))) rfl
set_option maxRecDepth 100000 in
theorem kw_1275 : Cond.selects RX11 yX11_image yX11_image ∈ xg := xg_in (List.mem_append_right _ (List.mem_append_right _ (List.mem_append_right _ (List.mem_append_right _ (List.mem_append_right _ (List.mem_append_right _ (List.mem_append_left _ (List.mem_of_getElem? (i := 75) rfl)))))))) rfl
set_option maxRecDepth 100000 in
theorem kw_1276 : Cond.code yX11_image cX11_image 2 (some .boolean) ∈ xg := xg_in (List.mem_append_right _ (List.mem_append_right _ (List.mem_append_right _ (List.mem_append_right _ (List.mem_append_right _ (List.mem_append_right _ (List.mem_append_left _ (List.mem_of_getElem? (i := 76) rfl)))))))) rfl
set_option maxRecDepth 100000 in
theorem kw_1277 : Cond.methodLink RL 190 yX11_restore ∈ xg := xg_in (List.mem_append_right _ (List.mem_append_right _ (List.mem_append_right _ (List.mem_append_right _ (List.mem_append_right _ (List.mem_append_right _ (List.mem_append_left _ (List.mem_of_getElem? (i := 77) rfl)))))))) rfl
set_option maxRecDepth 100000 in
theorem kw_1278 : Cond.instanceMethod yX11_restore ∈ xg := xg_in (List.mem_append_right _ (List.mem_append_right _ (List.mem_append_right _ (List.mem_append_right _ (List.mem_append_right _ (List.mem_append_right _ (List.mem_append_left _ (List.mem_of_getElem? (i := 78) rfl)))))))) rfl
set_option maxRecDepth 100000 in
theorem kw_1279 : Cond.selects RX11 yX11_restore yX11_restore ∈ xg := xg_in (List.mem_append_right _ (List.mem_append_right _ (List.mem_append_right _ (List.mem_append_right _ (List.mem_append_right _ (List.mem_append_right _ (List.mem_append_left _ (List.mem_of_getElem? (i := 79) rfl)))))))) rfl
set_option maxRecDepth 100000 in
theorem kw_1280 : Cond.code yX11_restore cX11_restore 2 (some .boolean) ∈ xg := xg_in (List.mem_append_right _ (List.mem_append_right _ (List.mem_append_right _ (List.mem_append_right _ (List.mem_append_right _ (List.mem_append_right _ (List.mem_append_left _ (List.mem_of_getElem? (i := 80) rfl)))))))) rfl
set_option maxRecDepth 100000 in
theorem kw_1281 : Cond.methodLink RL 194 yX11_count ∈ xg := xg_in (List.mem_append_right _ (List.mem_append_right _ (List.mem_append_right _ (List.mem_append_right _ (List.mem_append_right _ (List.mem_append_right _ (List.mem_append_left _ (List.mem_of_getElem? (i := 81) rfl)))))))) rfl
set_option maxRecDepth 100000 in
theorem kw_1282 : Cond.instanceMethod yX11_count ∈ xg := xg_in (List.mem_append_right _ (List.mem_append_right _ (List.mem_append_right _ (List.mem_append_right _ (List.mem_append_right _ (List.mem_append_right _ (List.mem_append_left _ (List.mem_of_getElem? (i := 82) rfl)))))))) rfl
set_option maxRecDepth 100000 in
theorem kw_1283 : Cond.selects RX11 yX11_count yX11_count ∈ xg := xg_in (List.mem_append_right _ (List.mem_append_right _ (List.mem_append_right _ (List.mem_append_right _ (List.mem_append_right _ (List.mem_append_right _ (List.mem_append_left _ (List.mem_of_getElem? (i := 83) rfl)))))))) rfl
set_option maxRecDepth 100000 in
theorem kw_1284 : Cond.code yX11_count cX11_count 2 (some .int) ∈ xg := xg_in (List.mem_append_right _ (List.mem_append_right _ (List.mem_append_right _ (List.mem_append_right _ (List.mem_append_right _ (List.mem_append_right _ (List.mem_append_left _ (List.mem_of_getElem? (i := 84) rfl)))))))) rfl
set_option maxRecDepth 100000 in
theorem kw_1285 : Cond.methodLink RL 42 yL_soul ∈ xg := xg_in (List.mem_append_right _ (List.mem_append_right _ (List.mem_append_right _ (List.mem_append_right _ (List.mem_append_right _ (List.mem_append_right _ (List.mem_append_left _ (List.mem_of_getElem? (i := 85) rfl)))))))) rfl
set_option maxRecDepth 100000 in
theorem kw_1286 : Cond.static yL_soul ∈ xg := xg_in (List.mem_append_right _ (List.mem_append_right _ (List.mem_append_right _ (List.mem_append_right _ (List.mem_append_right _ (List.mem_append_right _ (List.mem_append_left _ (List.mem_of_getElem? (i := 86) rfl)))))))) rfl
set_option maxRecDepth 100000 in
theorem kw_1288 : Cond.classLink RL 13 "java/util/NoSuchElementException" ∈ xg := xg_in (List.mem_append_right _ (List.mem_append_right _ (List.mem_append_right _ (List.mem_append_right _ (List.mem_append_right _ (List.mem_append_right _ (List.mem_append_left _ (List.mem_of_getElem? (i := 88) rfl)))))))) rfl
set_option maxRecDepth 100000 in
theorem kw_1289 : Cond.methodLink RL 7 yX11_soul ∈ xg := xg_in (List.mem_append_right _ (List.mem_append_right _ (List.mem_append_right _ (List.mem_append_right _ (List.mem_append_right _ (List.mem_append_right _ (List.mem_append_left _ (List.mem_of_getElem? (i := 89) rfl)))))))) rfl
set_option maxRecDepth 100000 in
theorem kw_1290 : Cond.instanceMethod yX11_soul ∈ xg := xg_in (List.mem_append_right _ (List.mem_append_right _ (List.mem_append_right _ (List.mem_append_right _ (List.mem_append_right _ (List.mem_append_right _ (List.mem_append_left _ (List.mem_of_getElem? (i := 90) rfl)))))))) rfl
set_option maxRecDepth 100000 in
theorem kw_1291 : Cond.selects RX11 yX11_soul yX11_soul ∈ xg := xg_in (List.mem_append_right _ (List.mem_append_right _ (List.mem_append_right _ (List.mem_append_right _ (List.mem_append_right _ (List.mem_append_right _ (List.mem_append_left _ (List.mem_of_getElem? (i := 91) rfl)))))))) rfl
set_option maxRecDepth 100000 in
theorem kw_1292 : Cond.code yX11_soul cX11_soul 3 (some .int) ∈ xg := xg_in (List.mem_append_right _ (List.mem_append_right _ (List.mem_append_right _ (List.mem_append_right _ (List.mem_append_right _ (List.mem_append_right _ (List.mem_append_left _ (List.mem_of_getElem? (i := 92) rfl)))))))) rfl
set_option maxRecDepth 100000 in
theorem kw_1293 : Cond.classLink RX11 172 "java/util/NoSuchElementException" ∈ xg := xg_in (List.mem_append_right _ (List.mem_append_right _ (List.mem_append_right _ (List.mem_append_right _ (List.mem_append_right _ (List.mem_append_right _ (List.mem_append_left _ (List.mem_of_getElem? (i := 93) rfl)))))))) rfl
set_option maxRecDepth 100000 in
theorem kw_1358 : Cond.methodLink RL 23 yX12_feed ∈ xg := xg_in (List.mem_append_right _ (List.mem_append_right _ (List.mem_append_right _ (List.mem_append_right _ (List.mem_append_right _ (List.mem_append_right _ (List.mem_append_left _ (List.mem_of_getElem? (i := 158) rfl)))))))) rfl
set_option maxRecDepth 100000 in
theorem kw_1359 : Cond.instanceMethod yX12_feed ∈ xg := xg_in (List.mem_append_right _ (List.mem_append_right _ (List.mem_append_right _ (List.mem_append_right _ (List.mem_append_right _ (List.mem_append_right _ (List.mem_append_left _ (List.mem_of_getElem? (i := 159) rfl)))))))) rfl
set_option maxRecDepth 100000 in
theorem kw_1360 : Cond.selects RX12 yX12_feed yX12_feed ∈ xg := xg_in (List.mem_append_right _ (List.mem_append_right _ (List.mem_append_right _ (List.mem_append_right _ (List.mem_append_right _ (List.mem_append_right _ (List.mem_append_left _ (List.mem_of_getElem? (i := 160) rfl)))))))) rfl
set_option maxRecDepth 100000 in
theorem kw_1361 : Cond.code yX12_feed cX12_feed 6 (some .int) ∈ xg := xg_in (List.mem_append_right _ (List.mem_append_right _ (List.mem_append_right _ (List.mem_append_right _ (List.mem_append_right _ (List.mem_append_right _ (List.mem_append_left _ (List.mem_of_getElem? (i := 161) rfl)))))))) rfl
set_option maxRecDepth 100000 in
theorem kw_1365 : Cond.instantiable RX12 44 ∈ xg := xg_in (List.mem_append_right _ (List.mem_append_right _ (List.mem_append_right _ (List.mem_append_right _ (List.mem_append_right _ (List.mem_append_right _ (List.mem_append_left _ (List.mem_of_getElem? (i := 165) rfl)))))))) rfl
set_option maxRecDepth 100000 in
theorem kw_1367 : Cond.methodLink RL 28 yX12_end ∈ xg := xg_in (List.mem_append_right _ (List.mem_append_right _ (List.mem_append_right _ (List.mem_append_right _ (List.mem_append_right _ (List.mem_append_right _ (List.mem_append_left _ (List.mem_of_getElem? (i := 167) rfl)))))))) rfl
set_option maxRecDepth 100000 in
theorem kw_1368 : Cond.instanceMethod yX12_end ∈ xg := xg_in (List.mem_append_right _ (List.mem_append_right _ (List.mem_append_right _ (List.mem_append_right _ (List.mem_append_right _ (List.mem_append_right _ (List.mem_append_left _ (List.mem_of_getElem? (i := 168) rfl)))))))) rfl
set_option maxRecDepth 100000 in
theorem kw_1369 : Cond.selects RX12 yX12_end yX12_end ∈ xg := xg_in (List.mem_append_right _ (List.mem_append_right _ (List.mem_append_right _ (List.mem_append_right _ (List.mem_append_right _ (List.mem_append_right _ (List.mem_append_left _ (List.mem_of_getElem? (i := 169) rfl)))))))) rfl
set_option maxRecDepth 100000 in
theorem kw_1370 : Cond.code yX12_end cX12_end 2 (some .boolean) ∈ xg := xg_in (List.mem_append_right _ (List.mem_append_right _ (List.mem_append_right _ (List.mem_append_right _ (List.mem_append_right _ (List.mem_append_right _ (List.mem_append_left _ (List.mem_of_getElem? (i := 170) rfl)))))))) rfl
set_option maxRecDepth 100000 in
theorem kw_1371 : Cond.classLink RL 16 RX12 ∈ xg := xg_in (List.mem_append_right _ (List.mem_append_right _ (List.mem_append_right _ (List.mem_append_right _ (List.mem_append_right _ (List.mem_append_right _ (List.mem_append_left _ (List.mem_of_getElem? (i := 171) rfl)))))))) rfl
set_option maxRecDepth 100000 in
theorem kw_1372 : Cond.methodLink RL 18 yX12_init ∈ xg := xg_in (List.mem_append_right _ (List.mem_append_right _ (List.mem_append_right _ (List.mem_append_right _ (List.mem_append_right _ (List.mem_append_right _ (List.mem_append_left _ (List.mem_of_getElem? (i := 172) rfl)))))))) rfl
set_option maxRecDepth 100000 in
theorem kw_1373 : Cond.instanceMethod yX12_init ∈ xg := xg_in (List.mem_append_right _ (List.mem_append_right _ (List.mem_append_right _ (List.mem_append_right _ (List.mem_append_right _ (List.mem_append_right _ (List.mem_append_left _ (List.mem_of_getElem? (i := 173) rfl)))))))) rfl
set_option maxRecDepth 100000 in
theorem kw_1374 : Cond.code yX12_init cX12_init 1 none ∈ xg := xg_in (List.mem_append_right _ (List.mem_append_right _ (List.mem_append_right _ (List.mem_append_right _ (List.mem_append_right _ (List.mem_append_right _ (List.mem_append_left _ (List.mem_of_getElem? (i := 174) rfl)))))))) rfl
set_option maxRecDepth 100000 in
theorem kw_1375 : Cond.methodLink RX12 27 objectInit ∈ xg := xg_in (List.mem_append_right _ (List.mem_append_right _ (List.mem_append_right _ (List.mem_append_right _ (List.mem_append_right _ (List.mem_append_right _ (List.mem_append_left _ (List.mem_of_getElem? (i := 175) rfl)))))))) rfl
set_option maxRecDepth 100000 in
theorem kw_150 : Cond.arrayClass .byte ∈ xg := xg_in (List.mem_append_right _ (List.mem_append_left _ (List.mem_of_getElem? (i := 150) rfl))) rfl
set_option maxRecDepth 100000 in
theorem kw_151 : Cond.arrayClass .long ∈ xg := xg_in (List.mem_append_right _ (List.mem_append_left _ (List.mem_of_getElem? (i := 151) rfl))) rfl
set_option maxRecDepth 100000 in
theorem kw_152 : Cond.classLink RX11 16 RX7 ∈ xg := xg_in (List.mem_append_right _ (List.mem_append_left _ (List.mem_of_getElem? (i := 152) rfl))) rfl
set_option maxRecDepth 100000 in
theorem kw_153 : Cond.instantiable RX7 12 ∈ xg := xg_in (List.mem_append_right _ (List.mem_append_left _ (List.mem_of_getElem? (i := 153) rfl))) rfl
set_option maxRecDepth 100000 in
theorem kw_1536 : Cond.arrayClass .boolean ∈ xg := xg_in (List.mem_append_right _ (List.mem_append_right _ (List.mem_append_right _ (List.mem_append_right _ (List.mem_append_right _ (List.mem_append_right _ (List.mem_append_right _ (List.mem_append_left _ (List.mem_of_getElem? (i := 96) rfl))))))))) rfl
set_option maxRecDepth 100000 in
theorem kw_1537 : Cond.methodLink RL 33 yX12_town ∈ xg := xg_in (List.mem_append_right _ (List.mem_append_right _ (List.mem_append_right _ (List.mem_append_right _ (List.mem_append_right _ (List.mem_append_right _ (List.mem_append_right _ (List.mem_append_left _ (List.mem_of_getElem? (i := 97) rfl))))))))) rfl
set_option maxRecDepth 100000 in
theorem kw_1538 : Cond.instanceMethod yX12_town ∈ xg := xg_in (List.mem_append_right _ (List.mem_append_right _ (List.mem_append_right _ (List.mem_append_right _ (List.mem_append_right _ (List.mem_append_right _ (List.mem_append_right _ (List.mem_append_left _ (List.mem_of_getElem? (i := 98) rfl))))))))) rfl
set_option maxRecDepth 100000 in
theorem kw_1539 : Cond.selects RX12 yX12_town yX12_town ∈ xg := xg_in (List.mem_append_right _ (List.mem_append_right _ (List.mem_append_right _ (List.mem_append_right _ (List.mem_append_right _ (List.mem_append_right _ (List.mem_append_right _ (List.mem_append_left _ (List.mem_of_getElem? (i := 99) rfl))))))))) rfl
set_option maxRecDepth 100000 in
theorem kw_1540 : Cond.code yX12_town cX12_town 2 (some .int) ∈ xg := xg_in (List.mem_append_right _ (List.mem_append_right _ (List.mem_append_right _ (List.mem_append_right _ (List.mem_append_right _ (List.mem_append_right _ (List.mem_append_right _ (List.mem_append_left _ (List.mem_of_getElem? (i := 100) rfl))))))))) rfl
set_option maxRecDepth 100000 in
theorem kw_155 : Cond.instanceMethod yX7_init ∈ xg := xg_in (List.mem_append_right _ (List.mem_append_left _ (List.mem_of_getElem? (i := 155) rfl))) rfl
set_option maxRecDepth 100000 in
theorem kw_156 : Cond.code yX7_init cX7_init 1 none ∈ xg := xg_in (List.mem_append_right _ (List.mem_append_left _ (List.mem_of_getElem? (i := 156) rfl))) rfl
set_option maxRecDepth 100000 in
theorem kw_157 : Cond.methodLink RX7 3 objectInit ∈ xg := xg_in (List.mem_append_right _ (List.mem_append_left _ (List.mem_of_getElem? (i := 157) rfl))) rfl
set_option maxRecDepth 100000 in
theorem kw_16 : Cond.initialized RX1 ∈ xg := xg_in (List.mem_append_right _ (List.mem_append_left _ (List.mem_of_getElem? (i := 16) rfl))) rfl
set_option maxRecDepth 100000 in
theorem kw_1617 : Cond.methodLink RL 37 yX12_fault ∈ xg := xg_in (List.mem_append_right _ (List.mem_append_right _ (List.mem_append_right _ (List.mem_append_right _ (List.mem_append_right _ (List.mem_append_right _ (List.mem_append_right _ (List.mem_append_left _ (List.mem_of_getElem? (i := 177) rfl))))))))) rfl
set_option maxRecDepth 100000 in
theorem kw_1618 : Cond.instanceMethod yX12_fault ∈ xg := xg_in (List.mem_append_right _ (List.mem_append_right _ (List.mem_append_right _ (List.mem_append_right _ (List.mem_append_right _ (List.mem_append_right _ (List.mem_append_right _ (List.mem_append_left _ (List.mem_of_getElem? (i := 178) rfl))))))))) rfl
set_option maxRecDepth 100000 in
theorem kw_1619 : Cond.selects RX12 yX12_fault yX12_fault ∈ xg := xg_in (List.mem_append_right _ (List.mem_append_right _ (List.mem_append_right _ (List.mem_append_right _ (List.mem_append_right _ (List.mem_append_right _ (List.mem_append_right _ (List.mem_append_left _ (List.mem_of_getElem? (i := 179) rfl))))))))) rfl
set_option maxRecDepth 100000 in
theorem kw_1620 : Cond.code yX12_fault cX12_fault 1 (some .int) ∈ xg := xg_in (List.mem_append_right _ (List.mem_append_right _ (List.mem_append_right _ (List.mem_append_right _ (List.mem_append_right _ (List.mem_append_right _ (List.mem_append_right _ (List.mem_append_left _ (List.mem_of_getElem? (i := 180) rfl))))))))) rfl
set_option maxRecDepth 100000 in
theorem kw_1621 : Cond.methodLink RL 41 yX12_name ∈ xg := xg_in (List.mem_append_right _ (List.mem_append_right _ (List.mem_append_right _ (List.mem_append_right _ (List.mem_append_right _ (List.mem_append_right _ (List.mem_append_right _ (List.mem_append_left _ (List.mem_of_getElem? (i := 181) rfl))))))))) rfl
set_option maxRecDepth 100000 in
theorem kw_1622 : Cond.instanceMethod yX12_name ∈ xg := xg_in (List.mem_append_right _ (List.mem_append_right _ (List.mem_append_right _ (List.mem_append_right _ (List.mem_append_right _ (List.mem_append_right _ (List.mem_append_right _ (List.mem_append_left _ (List.mem_of_getElem? (i := 182) rfl))))))))) rfl
set_option maxRecDepth 100000 in
theorem kw_1623 : Cond.selects RX12 yX12_name yX12_name ∈ xg := xg_in (List.mem_append_right _ (List.mem_append_right _ (List.mem_append_right _ (List.mem_append_right _ (List.mem_append_right _ (List.mem_append_right _ (List.mem_append_right _ (List.mem_append_left _ (List.mem_of_getElem? (i := 183) rfl))))))))) rfl
set_option maxRecDepth 100000 in
theorem kw_1624 : Cond.code yX12_name cX12_name 3 (some .int) ∈ xg := xg_in (List.mem_append_right _ (List.mem_append_right _ (List.mem_append_right _ (List.mem_append_right _ (List.mem_append_right _ (List.mem_append_right _ (List.mem_append_right _ (List.mem_append_left _ (List.mem_of_getElem? (i := 184) rfl))))))))) rfl
set_option maxRecDepth 100000 in
theorem kw_1641 : Cond.methodLink RL 47 yX12_soul ∈ xg := xg_in (List.mem_append_right _ (List.mem_append_right _ (List.mem_append_right _ (List.mem_append_right _ (List.mem_append_right _ (List.mem_append_right _ (List.mem_append_right _ (List.mem_append_left _ (List.mem_of_getElem? (i := 201) rfl))))))))) rfl
set_option maxRecDepth 100000 in
theorem kw_1642 : Cond.instanceMethod yX12_soul ∈ xg := xg_in (List.mem_append_right _ (List.mem_append_right _ (List.mem_append_right _ (List.mem_append_right _ (List.mem_append_right _ (List.mem_append_right _ (List.mem_append_right _ (List.mem_append_left _ (List.mem_of_getElem? (i := 202) rfl))))))))) rfl
set_option maxRecDepth 100000 in
theorem kw_1643 : Cond.selects RX12 yX12_soul yX12_soul ∈ xg := xg_in (List.mem_append_right _ (List.mem_append_right _ (List.mem_append_right _ (List.mem_append_right _ (List.mem_append_right _ (List.mem_append_right _ (List.mem_append_right _ (List.mem_append_left _ (List.mem_of_getElem? (i := 203) rfl))))))))) rfl
set_option maxRecDepth 100000 in
theorem kw_1644 : Cond.code yX12_soul cX12_soul 3 (some .int) ∈ xg := xg_in (List.mem_append_right _ (List.mem_append_right _ (List.mem_append_right _ (List.mem_append_right _ (List.mem_append_right _ (List.mem_append_right _ (List.mem_append_right _ (List.mem_append_left _ (List.mem_of_getElem? (i := 204) rfl))))))))) rfl
set_option maxRecDepth 100000 in
theorem kw_1661 : Cond.methodLink RL 51 yX12_worth ∈ xg := xg_in (List.mem_append_right _ (List.mem_append_right _ (List.mem_append_right _ (List.mem_append_right _ (List.mem_append_right _ (List.mem_append_right _ (List.mem_append_right _ (List.mem_append_left _ (List.mem_of_getElem? (i := 221) rfl))))))))) rfl
set_option maxRecDepth 100000 in
theorem kw_1662 : Cond.instanceMethod yX12_worth ∈ xg := xg_in (List.mem_append_right _ (List.mem_append_right _ (List.mem_append_right _ (List.mem_append_right _ (List.mem_append_right _ (List.mem_append_right _ (List.mem_append_right _ (List.mem_append_left _ (List.mem_of_getElem? (i := 222) rfl))))))))) rfl
set_option maxRecDepth 100000 in
theorem kw_1663 : Cond.selects RX12 yX12_worth yX12_worth ∈ xg := xg_in (List.mem_append_right _ (List.mem_append_right _ (List.mem_append_right _ (List.mem_append_right _ (List.mem_append_right _ (List.mem_append_right _ (List.mem_append_right _ (List.mem_append_left _ (List.mem_of_getElem? (i := 223) rfl))))))))) rfl
set_option maxRecDepth 100000 in
theorem kw_1664 : Cond.code yX12_worth cX12_worth 3 (some .int) ∈ xg := xg_in (List.mem_append_right _ (List.mem_append_right _ (List.mem_append_right _ (List.mem_append_right _ (List.mem_append_right _ (List.mem_append_right _ (List.mem_append_right _ (List.mem_append_left _ (List.mem_of_getElem? (i := 224) rfl))))))))) rfl
set_option maxRecDepth 100000 in
theorem kw_1665 : Cond.methodLink RL 56 yX12_now ∈ xg := xg_in (List.mem_append_right _ (List.mem_append_right _ (List.mem_append_right _ (List.mem_append_right _ (List.mem_append_right _ (List.mem_append_right _ (List.mem_append_right _ (List.mem_append_left _ (List.mem_of_getElem? (i := 225) rfl))))))))) rfl
set_option maxRecDepth 100000 in
theorem kw_1666 : Cond.instanceMethod yX12_now ∈ xg := xg_in (List.mem_append_right _ (List.mem_append_right _ (List.mem_append_right _ (List.mem_append_right _ (List.mem_append_right _ (List.mem_append_right _ (List.mem_append_right _ (List.mem_append_left _ (List.mem_of_getElem? (i := 226) rfl))))))))) rfl
set_option maxRecDepth 100000 in
theorem kw_1667 : Cond.selects RX12 yX12_now yX12_now ∈ xg := xg_in (List.mem_append_right _ (List.mem_append_right _ (List.mem_append_right _ (List.mem_append_right _ (List.mem_append_right _ (List.mem_append_right _ (List.mem_append_right _ (List.mem_append_left _ (List.mem_of_getElem? (i := 227) rfl))))))))) rfl
set_option maxRecDepth 100000 in
theorem kw_1668 : Cond.code yX12_now cX12_now 2 (some .int) ∈ xg := xg_in (List.mem_append_right _ (List.mem_append_right _ (List.mem_append_right _ (List.mem_append_right _ (List.mem_append_right _ (List.mem_append_right _ (List.mem_append_right _ (List.mem_append_left _ (List.mem_of_getElem? (i := 228) rfl))))))))) rfl
set_option maxRecDepth 100000 in
theorem kw_1677 : Cond.methodLink RL 60 yX12_take ∈ xg := xg_in (List.mem_append_right _ (List.mem_append_right _ (List.mem_append_right _ (List.mem_append_right _ (List.mem_append_right _ (List.mem_append_right _ (List.mem_append_right _ (List.mem_append_left _ (List.mem_of_getElem? (i := 237) rfl))))))))) rfl
set_option maxRecDepth 100000 in
theorem kw_1678 : Cond.instanceMethod yX12_take ∈ xg := xg_in (List.mem_append_right _ (List.mem_append_right _ (List.mem_append_right _ (List.mem_append_right _ (List.mem_append_right _ (List.mem_append_right _ (List.mem_append_right _ (List.mem_append_left _ (List.mem_of_getElem? (i := 238) rfl))))))))) rfl
set_option maxRecDepth 100000 in
theorem kw_1679 : Cond.selects RX12 yX12_take yX12_take ∈ xg := xg_in (List.mem_append_right _ (List.mem_append_right _ (List.mem_append_right _ (List.mem_append_right _ (List.mem_append_right _ (List.mem_append_right _ (List.mem_append_right _ (List.mem_append_left _ (List.mem_of_getElem? (i := 239) rfl))))))))) rfl
set_option maxRecDepth 100000 in
theorem kw_1680 : Cond.code yX12_take cX12_take 4 (some .int) ∈ xg := xg_in (List.mem_append_right _ (List.mem_append_right _ (List.mem_append_right _ (List.mem_append_right _ (List.mem_append_right _ (List.mem_append_right _ (List.mem_append_right _ (List.mem_append_right _ (List.mem_append_left _ (List.mem_of_getElem? (i := 0) rfl)))))))))) rfl
set_option maxRecDepth 100000 in
theorem kw_1701 : Cond.methodLink RL 64 yX12_swap ∈ xg := xg_in (List.mem_append_right _ (List.mem_append_right _ (List.mem_append_right _ (List.mem_append_right _ (List.mem_append_right _ (List.mem_append_right _ (List.mem_append_right _ (List.mem_append_right _ (List.mem_append_left _ (List.mem_of_getElem? (i := 21) rfl)))))))))) rfl
set_option maxRecDepth 100000 in
theorem kw_1702 : Cond.instanceMethod yX12_swap ∈ xg := xg_in (List.mem_append_right _ (List.mem_append_right _ (List.mem_append_right _ (List.mem_append_right _ (List.mem_append_right _ (List.mem_append_right _ (List.mem_append_right _ (List.mem_append_right _ (List.mem_append_left _ (List.mem_of_getElem? (i := 22) rfl)))))))))) rfl
set_option maxRecDepth 100000 in
theorem kw_1703 : Cond.selects RX12 yX12_swap yX12_swap ∈ xg := xg_in (List.mem_append_right _ (List.mem_append_right _ (List.mem_append_right _ (List.mem_append_right _ (List.mem_append_right _ (List.mem_append_right _ (List.mem_append_right _ (List.mem_append_right _ (List.mem_append_left _ (List.mem_of_getElem? (i := 23) rfl)))))))))) rfl
set_option maxRecDepth 100000 in
theorem kw_1704 : Cond.code yX12_swap cX12_swap 4 (some .int) ∈ xg := xg_in (List.mem_append_right _ (List.mem_append_right _ (List.mem_append_right _ (List.mem_append_right _ (List.mem_append_right _ (List.mem_append_right _ (List.mem_append_right _ (List.mem_append_right _ (List.mem_append_left _ (List.mem_of_getElem? (i := 24) rfl)))))))))) rfl
set_option maxRecDepth 100000 in
theorem kw_1721 : Cond.methodLink RL 68 yX12_sell ∈ xg := xg_in (List.mem_append_right _ (List.mem_append_right _ (List.mem_append_right _ (List.mem_append_right _ (List.mem_append_right _ (List.mem_append_right _ (List.mem_append_right _ (List.mem_append_right _ (List.mem_append_left _ (List.mem_of_getElem? (i := 41) rfl)))))))))) rfl
set_option maxRecDepth 100000 in
theorem kw_1722 : Cond.instanceMethod yX12_sell ∈ xg := xg_in (List.mem_append_right _ (List.mem_append_right _ (List.mem_append_right _ (List.mem_append_right _ (List.mem_append_right _ (List.mem_append_right _ (List.mem_append_right _ (List.mem_append_right _ (List.mem_append_left _ (List.mem_of_getElem? (i := 42) rfl)))))))))) rfl
set_option maxRecDepth 100000 in
theorem kw_1723 : Cond.selects RX12 yX12_sell yX12_sell ∈ xg := xg_in (List.mem_append_right _ (List.mem_append_right _ (List.mem_append_right _ (List.mem_append_right _ (List.mem_append_right _ (List.mem_append_right _ (List.mem_append_right _ (List.mem_append_right _ (List.mem_append_left _ (List.mem_of_getElem? (i := 43) rfl)))))))))) rfl
set_option maxRecDepth 100000 in
theorem kw_1724 : Cond.code yX12_sell cX12_sell 4 (some .int) ∈ xg := xg_in (List.mem_append_right _ (List.mem_append_right _ (List.mem_append_right _ (List.mem_append_right _ (List.mem_append_right _ (List.mem_append_right _ (List.mem_append_right _ (List.mem_append_right _ (List.mem_append_left _ (List.mem_of_getElem? (i := 44) rfl)))))))))) rfl
set_option maxRecDepth 100000 in
theorem kw_1733 : Cond.methodLink RL 72 yX12_die ∈ xg := xg_in (List.mem_append_right _ (List.mem_append_right _ (List.mem_append_right _ (List.mem_append_right _ (List.mem_append_right _ (List.mem_append_right _ (List.mem_append_right _ (List.mem_append_right _ (List.mem_append_left _ (List.mem_of_getElem? (i := 53) rfl)))))))))) rfl
set_option maxRecDepth 100000 in
theorem kw_1734 : Cond.instanceMethod yX12_die ∈ xg := xg_in (List.mem_append_right _ (List.mem_append_right _ (List.mem_append_right _ (List.mem_append_right _ (List.mem_append_right _ (List.mem_append_right _ (List.mem_append_right _ (List.mem_append_right _ (List.mem_append_left _ (List.mem_of_getElem? (i := 54) rfl)))))))))) rfl
set_option maxRecDepth 100000 in
theorem kw_1735 : Cond.selects RX12 yX12_die yX12_die ∈ xg := xg_in (List.mem_append_right _ (List.mem_append_right _ (List.mem_append_right _ (List.mem_append_right _ (List.mem_append_right _ (List.mem_append_right _ (List.mem_append_right _ (List.mem_append_right _ (List.mem_append_left _ (List.mem_of_getElem? (i := 55) rfl)))))))))) rfl
set_option maxRecDepth 100000 in
theorem kw_1736 : Cond.code yX12_die cX12_die 3 (some .int) ∈ xg := xg_in (List.mem_append_right _ (List.mem_append_right _ (List.mem_append_right _ (List.mem_append_right _ (List.mem_append_right _ (List.mem_append_right _ (List.mem_append_right _ (List.mem_append_right _ (List.mem_append_left _ (List.mem_of_getElem? (i := 56) rfl)))))))))) rfl
set_option maxRecDepth 100000 in
theorem kw_1741 : Cond.methodLink RL 76 yX12_flee ∈ xg := xg_in (List.mem_append_right _ (List.mem_append_right _ (List.mem_append_right _ (List.mem_append_right _ (List.mem_append_right _ (List.mem_append_right _ (List.mem_append_right _ (List.mem_append_right _ (List.mem_append_left _ (List.mem_of_getElem? (i := 61) rfl)))))))))) rfl
set_option maxRecDepth 100000 in
theorem kw_1742 : Cond.instanceMethod yX12_flee ∈ xg := xg_in (List.mem_append_right _ (List.mem_append_right _ (List.mem_append_right _ (List.mem_append_right _ (List.mem_append_right _ (List.mem_append_right _ (List.mem_append_right _ (List.mem_append_right _ (List.mem_append_left _ (List.mem_of_getElem? (i := 62) rfl)))))))))) rfl
set_option maxRecDepth 100000 in
theorem kw_1743 : Cond.selects RX12 yX12_flee yX12_flee ∈ xg := xg_in (List.mem_append_right _ (List.mem_append_right _ (List.mem_append_right _ (List.mem_append_right _ (List.mem_append_right _ (List.mem_append_right _ (List.mem_append_right _ (List.mem_append_right _ (List.mem_append_left _ (List.mem_of_getElem? (i := 63) rfl)))))))))) rfl
set_option maxRecDepth 100000 in
theorem kw_1744 : Cond.code yX12_flee cX12_flee 3 (some .int) ∈ xg := xg_in (List.mem_append_right _ (List.mem_append_right _ (List.mem_append_right _ (List.mem_append_right _ (List.mem_append_right _ (List.mem_append_right _ (List.mem_append_right _ (List.mem_append_right _ (List.mem_append_left _ (List.mem_of_getElem? (i := 64) rfl)))))))))) rfl
set_option maxRecDepth 100000 in
theorem kw_1753 : Cond.methodLink RL 80 yX12_pay ∈ xg := xg_in (List.mem_append_right _ (List.mem_append_right _ (List.mem_append_right _ (List.mem_append_right _ (List.mem_append_right _ (List.mem_append_right _ (List.mem_append_right _ (List.mem_append_right _ (List.mem_append_left _ (List.mem_of_getElem? (i := 73) rfl)))))))))) rfl
set_option maxRecDepth 100000 in
theorem kw_1754 : Cond.instanceMethod yX12_pay ∈ xg := xg_in (List.mem_append_right _ (List.mem_append_right _ (List.mem_append_right _ (List.mem_append_right _ (List.mem_append_right _ (List.mem_append_right _ (List.mem_append_right _ (List.mem_append_right _ (List.mem_append_left _ (List.mem_of_getElem? (i := 74) rfl)))))))))) rfl
set_option maxRecDepth 100000 in
theorem kw_1755 : Cond.selects RX12 yX12_pay yX12_pay ∈ xg := xg_in (List.mem_append_right _ (List.mem_append_right _ (List.mem_append_right _ (List.mem_append_right _ (List.mem_append_right _ (List.mem_append_right _ (List.mem_append_right _ (List.mem_append_right _ (List.mem_append_left _ (List.mem_of_getElem? (i := 75) rfl)))))))))) rfl
set_option maxRecDepth 100000 in
theorem kw_1756 : Cond.code yX12_pay cX12_pay 4 (some .int) ∈ xg := xg_in (List.mem_append_right _ (List.mem_append_right _ (List.mem_append_right _ (List.mem_append_right _ (List.mem_append_right _ (List.mem_append_right _ (List.mem_append_right _ (List.mem_append_right _ (List.mem_append_left _ (List.mem_of_getElem? (i := 76) rfl)))))))))) rfl
set_option maxRecDepth 100000 in
theorem kw_1765 : Cond.methodLink RL 84 yX12_lot ∈ xg := xg_in (List.mem_append_right _ (List.mem_append_right _ (List.mem_append_right _ (List.mem_append_right _ (List.mem_append_right _ (List.mem_append_right _ (List.mem_append_right _ (List.mem_append_right _ (List.mem_append_left _ (List.mem_of_getElem? (i := 85) rfl)))))))))) rfl
set_option maxRecDepth 100000 in
theorem kw_1766 : Cond.instanceMethod yX12_lot ∈ xg := xg_in (List.mem_append_right _ (List.mem_append_right _ (List.mem_append_right _ (List.mem_append_right _ (List.mem_append_right _ (List.mem_append_right _ (List.mem_append_right _ (List.mem_append_right _ (List.mem_append_left _ (List.mem_of_getElem? (i := 86) rfl)))))))))) rfl
set_option maxRecDepth 100000 in
theorem kw_1767 : Cond.selects RX12 yX12_lot yX12_lot ∈ xg := xg_in (List.mem_append_right _ (List.mem_append_right _ (List.mem_append_right _ (List.mem_append_right _ (List.mem_append_right _ (List.mem_append_right _ (List.mem_append_right _ (List.mem_append_right _ (List.mem_append_left _ (List.mem_of_getElem? (i := 87) rfl)))))))))) rfl
set_option maxRecDepth 100000 in
theorem kw_1768 : Cond.code yX12_lot cX12_lot 4 (some .int) ∈ xg := xg_in (List.mem_append_right _ (List.mem_append_right _ (List.mem_append_right _ (List.mem_append_right _ (List.mem_append_right _ (List.mem_append_right _ (List.mem_append_right _ (List.mem_append_right _ (List.mem_append_left _ (List.mem_of_getElem? (i := 88) rfl)))))))))) rfl
set_option maxRecDepth 100000 in
theorem kw_1774 : Cond.methodLink RL 88 yX12_mondays ∈ xg := xg_in (List.mem_append_right _ (List.mem_append_right _ (List.mem_append_right _ (List.mem_append_right _ (List.mem_append_right _ (List.mem_append_right _ (List.mem_append_right _ (List.mem_append_right _ (List.mem_append_left _ (List.mem_of_getElem? (i := 94) rfl)))))))))) rfl
set_option maxRecDepth 100000 in
theorem kw_1775 : Cond.instanceMethod yX12_mondays ∈ xg := xg_in (List.mem_append_right _ (List.mem_append_right _ (List.mem_append_right _ (List.mem_append_right _ (List.mem_append_right _ (List.mem_append_right _ (List.mem_append_right _ (List.mem_append_right _ (List.mem_append_left _ (List.mem_of_getElem? (i := 95) rfl)))))))))) rfl
set_option maxRecDepth 100000 in
theorem kw_1776 : Cond.selects RX12 yX12_mondays yX12_mondays ∈ xg := xg_in (List.mem_append_right _ (List.mem_append_right _ (List.mem_append_right _ (List.mem_append_right _ (List.mem_append_right _ (List.mem_append_right _ (List.mem_append_right _ (List.mem_append_right _ (List.mem_append_left _ (List.mem_of_getElem? (i := 96) rfl)))))))))) rfl
set_option maxRecDepth 100000 in
theorem kw_1777 : Cond.code yX12_mondays cX12_mondays 2 (some .int) ∈ xg := xg_in (List.mem_append_right _ (List.mem_append_right _ (List.mem_append_right _ (List.mem_append_right _ (List.mem_append_right _ (List.mem_append_right _ (List.mem_append_right _ (List.mem_append_right _ (List.mem_append_left _ (List.mem_of_getElem? (i := 97) rfl)))))))))) rfl
set_option maxRecDepth 100000 in
theorem kw_1786 : Cond.methodLink RL 92 yX12_undo ∈ xg := xg_in (List.mem_append_right _ (List.mem_append_right _ (List.mem_append_right _ (List.mem_append_right _ (List.mem_append_right _ (List.mem_append_right _ (List.mem_append_right _ (List.mem_append_right _ (List.mem_append_left _ (List.mem_of_getElem? (i := 106) rfl)))))))))) rfl
set_option maxRecDepth 100000 in
theorem kw_1787 : Cond.instanceMethod yX12_undo ∈ xg := xg_in (List.mem_append_right _ (List.mem_append_right _ (List.mem_append_right _ (List.mem_append_right _ (List.mem_append_right _ (List.mem_append_right _ (List.mem_append_right _ (List.mem_append_right _ (List.mem_append_left _ (List.mem_of_getElem? (i := 107) rfl)))))))))) rfl
set_option maxRecDepth 100000 in
theorem kw_1788 : Cond.selects RX12 yX12_undo yX12_undo ∈ xg := xg_in (List.mem_append_right _ (List.mem_append_right _ (List.mem_append_right _ (List.mem_append_right _ (List.mem_append_right _ (List.mem_append_right _ (List.mem_append_right _ (List.mem_append_right _ (List.mem_append_left _ (List.mem_of_getElem? (i := 108) rfl)))))))))) rfl
set_option maxRecDepth 100000 in
theorem kw_1789 : Cond.code yX12_undo cX12_undo 2 (some .int) ∈ xg := xg_in (List.mem_append_right _ (List.mem_append_right _ (List.mem_append_right _ (List.mem_append_right _ (List.mem_append_right _ (List.mem_append_right _ (List.mem_append_right _ (List.mem_append_right _ (List.mem_append_left _ (List.mem_of_getElem? (i := 109) rfl)))))))))) rfl
set_option maxRecDepth 100000 in
theorem kw_1790 : Cond.methodLink RL 96 yX12_called ∈ xg := xg_in (List.mem_append_right _ (List.mem_append_right _ (List.mem_append_right _ (List.mem_append_right _ (List.mem_append_right _ (List.mem_append_right _ (List.mem_append_right _ (List.mem_append_right _ (List.mem_append_left _ (List.mem_of_getElem? (i := 110) rfl)))))))))) rfl
set_option maxRecDepth 100000 in
theorem kw_1791 : Cond.instanceMethod yX12_called ∈ xg := xg_in (List.mem_append_right _ (List.mem_append_right _ (List.mem_append_right _ (List.mem_append_right _ (List.mem_append_right _ (List.mem_append_right _ (List.mem_append_right _ (List.mem_append_right _ (List.mem_append_left _ (List.mem_of_getElem? (i := 111) rfl)))))))))) rfl
set_option maxRecDepth 100000 in
theorem kw_1792 : Cond.selects RX12 yX12_called yX12_called ∈ xg := xg_in (List.mem_append_right _ (List.mem_append_right _ (List.mem_append_right _ (List.mem_append_right _ (List.mem_append_right _ (List.mem_append_right _ (List.mem_append_right _ (List.mem_append_right _ (List.mem_append_left _ (List.mem_of_getElem? (i := 112) rfl)))))))))) rfl
set_option maxRecDepth 100000 in
theorem kw_1793 : Cond.code yX12_called cX12_called 3 (some .int) ∈ xg := xg_in (List.mem_append_right _ (List.mem_append_right _ (List.mem_append_right _ (List.mem_append_right _ (List.mem_append_right _ (List.mem_append_right _ (List.mem_append_right _ (List.mem_append_right _ (List.mem_append_left _ (List.mem_of_getElem? (i := 113) rfl)))))))))) rfl
set_option maxRecDepth 100000 in
theorem kw_1802 : Cond.methodLink RL 100 yX12_holder ∈ xg := xg_in (List.mem_append_right _ (List.mem_append_right _ (List.mem_append_right _ (List.mem_append_right _ (List.mem_append_right _ (List.mem_append_right _ (List.mem_append_right _ (List.mem_append_right _ (List.mem_append_left _ (List.mem_of_getElem? (i := 122) rfl)))))))))) rfl
set_option maxRecDepth 100000 in
theorem kw_1803 : Cond.instanceMethod yX12_holder ∈ xg := xg_in (List.mem_append_right _ (List.mem_append_right _ (List.mem_append_right _ (List.mem_append_right _ (List.mem_append_right _ (List.mem_append_right _ (List.mem_append_right _ (List.mem_append_right _ (List.mem_append_left _ (List.mem_of_getElem? (i := 123) rfl)))))))))) rfl
set_option maxRecDepth 100000 in
theorem kw_1804 : Cond.selects RX12 yX12_holder yX12_holder ∈ xg := xg_in (List.mem_append_right _ (List.mem_append_right _ (List.mem_append_right _ (List.mem_append_right _ (List.mem_append_right _ (List.mem_append_right _ (List.mem_append_right _ (List.mem_append_right _ (List.mem_append_left _ (List.mem_of_getElem? (i := 124) rfl)))))))))) rfl
set_option maxRecDepth 100000 in
theorem kw_1805 : Cond.code yX12_holder cX12_holder 4 (some .int) ∈ xg := xg_in (List.mem_append_right _ (List.mem_append_right _ (List.mem_append_right _ (List.mem_append_right _ (List.mem_append_right _ (List.mem_append_right _ (List.mem_append_right _ (List.mem_append_right _ (List.mem_append_left _ (List.mem_of_getElem? (i := 125) rfl)))))))))) rfl
set_option maxRecDepth 100000 in
theorem kw_1806 : Cond.methodLink RL 104 yX12_bearers ∈ xg := xg_in (List.mem_append_right _ (List.mem_append_right _ (List.mem_append_right _ (List.mem_append_right _ (List.mem_append_right _ (List.mem_append_right _ (List.mem_append_right _ (List.mem_append_right _ (List.mem_append_left _ (List.mem_of_getElem? (i := 126) rfl)))))))))) rfl
set_option maxRecDepth 100000 in
theorem kw_1807 : Cond.instanceMethod yX12_bearers ∈ xg := xg_in (List.mem_append_right _ (List.mem_append_right _ (List.mem_append_right _ (List.mem_append_right _ (List.mem_append_right _ (List.mem_append_right _ (List.mem_append_right _ (List.mem_append_right _ (List.mem_append_left _ (List.mem_of_getElem? (i := 127) rfl)))))))))) rfl
set_option maxRecDepth 100000 in
theorem kw_1808 : Cond.selects RX12 yX12_bearers yX12_bearers ∈ xg := xg_in (List.mem_append_right _ (List.mem_append_right _ (List.mem_append_right _ (List.mem_append_right _ (List.mem_append_right _ (List.mem_append_right _ (List.mem_append_right _ (List.mem_append_right _ (List.mem_append_left _ (List.mem_of_getElem? (i := 128) rfl)))))))))) rfl
set_option maxRecDepth 100000 in
theorem kw_1809 : Cond.code yX12_bearers cX12_bearers 4 (some .int) ∈ xg := xg_in (List.mem_append_right _ (List.mem_append_right _ (List.mem_append_right _ (List.mem_append_right _ (List.mem_append_right _ (List.mem_append_right _ (List.mem_append_right _ (List.mem_append_right _ (List.mem_append_left _ (List.mem_of_getElem? (i := 129) rfl)))))))))) rfl
set_option maxRecDepth 100000 in
theorem kw_1814 : Cond.methodLink RL 108 yX12_howLong ∈ xg := xg_in (List.mem_append_right _ (List.mem_append_right _ (List.mem_append_right _ (List.mem_append_right _ (List.mem_append_right _ (List.mem_append_right _ (List.mem_append_right _ (List.mem_append_right _ (List.mem_append_left _ (List.mem_of_getElem? (i := 134) rfl)))))))))) rfl
set_option maxRecDepth 100000 in
theorem kw_1815 : Cond.instanceMethod yX12_howLong ∈ xg := xg_in (List.mem_append_right _ (List.mem_append_right _ (List.mem_append_right _ (List.mem_append_right _ (List.mem_append_right _ (List.mem_append_right _ (List.mem_append_right _ (List.mem_append_right _ (List.mem_append_left _ (List.mem_of_getElem? (i := 135) rfl)))))))))) rfl
set_option maxRecDepth 100000 in
theorem kw_1816 : Cond.selects RX12 yX12_howLong yX12_howLong ∈ xg := xg_in (List.mem_append_right _ (List.mem_append_right _ (List.mem_append_right _ (List.mem_append_right _ (List.mem_append_right _ (List.mem_append_right _ (List.mem_append_right _ (List.mem_append_right _ (List.mem_append_left _ (List.mem_of_getElem? (i := 136) rfl)))))))))) rfl
set_option maxRecDepth 100000 in
theorem kw_1817 : Cond.code yX12_howLong cX12_howLong 3 (some .int) ∈ xg := xg_in (List.mem_append_right _ (List.mem_append_right _ (List.mem_append_right _ (List.mem_append_right _ (List.mem_append_right _ (List.mem_append_right _ (List.mem_append_right _ (List.mem_append_right _ (List.mem_append_left _ (List.mem_of_getElem? (i := 137) rfl)))))))))) rfl
set_option maxRecDepth 100000 in
theorem kw_1818 : Cond.methodLink RL 112 yX12_wishes ∈ xg := xg_in (List.mem_append_right _ (List.mem_append_right _ (List.mem_append_right _ (List.mem_append_right _ (List.mem_append_right _ (List.mem_append_right _ (List.mem_append_right _ (List.mem_append_right _ (List.mem_append_left _ (List.mem_of_getElem? (i := 138) rfl)))))))))) rfl
set_option maxRecDepth 100000 in
theorem kw_1819 : Cond.instanceMethod yX12_wishes ∈ xg := xg_in (List.mem_append_right _ (List.mem_append_right _ (List.mem_append_right _ (List.mem_append_right _ (List.mem_append_right _ (List.mem_append_right _ (List.mem_append_right _ (List.mem_append_right _ (List.mem_append_left _ (List.mem_of_getElem? (i := 139) rfl)))))))))) rfl
set_option maxRecDepth 100000 in
theorem kw_1820 : Cond.selects RX12 yX12_wishes yX12_wishes ∈ xg := xg_in (List.mem_append_right _ (List.mem_append_right _ (List.mem_append_right _ (List.mem_append_right _ (List.mem_append_right _ (List.mem_append_right _ (List.mem_append_right _ (List.mem_append_right _ (List.mem_append_left _ (List.mem_of_getElem? (i := 140) rfl)))))))))) rfl
set_option maxRecDepth 100000 in
theorem kw_1821 : Cond.code yX12_wishes cX12_wishes 5 (some .int) ∈ xg := xg_in (List.mem_append_right _ (List.mem_append_right _ (List.mem_append_right _ (List.mem_append_right _ (List.mem_append_right _ (List.mem_append_right _ (List.mem_append_right _ (List.mem_append_right _ (List.mem_append_left _ (List.mem_of_getElem? (i := 141) rfl)))))))))) rfl
set_option maxRecDepth 100000 in
theorem kw_1838 : Cond.methodLink RL 116 yX12_swaps ∈ xg := xg_in (List.mem_append_right _ (List.mem_append_right _ (List.mem_append_right _ (List.mem_append_right _ (List.mem_append_right _ (List.mem_append_right _ (List.mem_append_right _ (List.mem_append_right _ (List.mem_append_left _ (List.mem_of_getElem? (i := 158) rfl)))))))))) rfl
set_option maxRecDepth 100000 in
theorem kw_1839 : Cond.instanceMethod yX12_swaps ∈ xg := xg_in (List.mem_append_right _ (List.mem_append_right _ (List.mem_append_right _ (List.mem_append_right _ (List.mem_append_right _ (List.mem_append_right _ (List.mem_append_right _ (List.mem_append_right _ (List.mem_append_left _ (List.mem_of_getElem? (i := 159) rfl)))))))))) rfl
set_option maxRecDepth 100000 in
theorem kw_1840 : Cond.selects RX12 yX12_swaps yX12_swaps ∈ xg := xg_in (List.mem_append_right _ (List.mem_append_right _ (List.mem_append_right _ (List.mem_append_right _ (List.mem_append_right _ (List.mem_append_right _ (List.mem_append_right _ (List.mem_append_right _ (List.mem_append_left _ (List.mem_of_getElem? (i := 160) rfl)))))))))) rfl
set_option maxRecDepth 100000 in
theorem kw_1841 : Cond.code yX12_swaps cX12_swaps 6 (some .int) ∈ xg := xg_in (List.mem_append_right _ (List.mem_append_right _ (List.mem_append_right _ (List.mem_append_right _ (List.mem_append_right _ (List.mem_append_right _ (List.mem_append_right _ (List.mem_append_right _ (List.mem_append_left _ (List.mem_of_getElem? (i := 161) rfl)))))))))) rfl
set_option maxRecDepth 100000 in
theorem kw_1845 : Cond.methodLink RL 120 yX12_partner ∈ xg := xg_in (List.mem_append_right _ (List.mem_append_right _ (List.mem_append_right _ (List.mem_append_right _ (List.mem_append_right _ (List.mem_append_right _ (List.mem_append_right _ (List.mem_append_right _ (List.mem_append_left _ (List.mem_of_getElem? (i := 165) rfl)))))))))) rfl
set_option maxRecDepth 100000 in
theorem kw_1846 : Cond.instanceMethod yX12_partner ∈ xg := xg_in (List.mem_append_right _ (List.mem_append_right _ (List.mem_append_right _ (List.mem_append_right _ (List.mem_append_right _ (List.mem_append_right _ (List.mem_append_right _ (List.mem_append_right _ (List.mem_append_left _ (List.mem_of_getElem? (i := 166) rfl)))))))))) rfl
set_option maxRecDepth 100000 in
theorem kw_1847 : Cond.selects RX12 yX12_partner yX12_partner ∈ xg := xg_in (List.mem_append_right _ (List.mem_append_right _ (List.mem_append_right _ (List.mem_append_right _ (List.mem_append_right _ (List.mem_append_right _ (List.mem_append_right _ (List.mem_append_right _ (List.mem_append_left _ (List.mem_of_getElem? (i := 167) rfl)))))))))) rfl
set_option maxRecDepth 100000 in
theorem kw_1848 : Cond.code yX12_partner cX12_partner 2 (some .int) ∈ xg := xg_in (List.mem_append_right _ (List.mem_append_right _ (List.mem_append_right _ (List.mem_append_right _ (List.mem_append_right _ (List.mem_append_right _ (List.mem_append_right _ (List.mem_append_right _ (List.mem_append_left _ (List.mem_of_getElem? (i := 168) rfl)))))))))) rfl
set_option maxRecDepth 100000 in
theorem kw_1849 : Cond.methodLink RL 124 yX12_bidder ∈ xg := xg_in (List.mem_append_right _ (List.mem_append_right _ (List.mem_append_right _ (List.mem_append_right _ (List.mem_append_right _ (List.mem_append_right _ (List.mem_append_right _ (List.mem_append_right _ (List.mem_append_left _ (List.mem_of_getElem? (i := 169) rfl)))))))))) rfl
set_option maxRecDepth 100000 in
theorem kw_1850 : Cond.instanceMethod yX12_bidder ∈ xg := xg_in (List.mem_append_right _ (List.mem_append_right _ (List.mem_append_right _ (List.mem_append_right _ (List.mem_append_right _ (List.mem_append_right _ (List.mem_append_right _ (List.mem_append_right _ (List.mem_append_left _ (List.mem_of_getElem? (i := 170) rfl)))))))))) rfl
set_option maxRecDepth 100000 in
theorem kw_1851 : Cond.selects RX12 yX12_bidder yX12_bidder ∈ xg := xg_in (List.mem_append_right _ (List.mem_append_right _ (List.mem_append_right _ (List.mem_append_right _ (List.mem_append_right _ (List.mem_append_right _ (List.mem_append_right _ (List.mem_append_right _ (List.mem_append_left _ (List.mem_of_getElem? (i := 171) rfl)))))))))) rfl
set_option maxRecDepth 100000 in
theorem kw_1852 : Cond.code yX12_bidder cX12_bidder 2 (some .int) ∈ xg := xg_in (List.mem_append_right _ (List.mem_append_right _ (List.mem_append_right _ (List.mem_append_right _ (List.mem_append_right _ (List.mem_append_right _ (List.mem_append_right _ (List.mem_append_right _ (List.mem_append_left _ (List.mem_of_getElem? (i := 172) rfl)))))))))) rfl
set_option maxRecDepth 100000 in
theorem kw_1857 : Cond.methodLink RL 128 yX12_bid ∈ xg := xg_in (List.mem_append_right _ (List.mem_append_right _ (List.mem_append_right _ (List.mem_append_right _ (List.mem_append_right _ (List.mem_append_right _ (List.mem_append_right _ (List.mem_append_right _ (List.mem_append_left _ (List.mem_of_getElem? (i := 177) rfl)))))))))) rfl
set_option maxRecDepth 100000 in
theorem kw_1858 : Cond.instanceMethod yX12_bid ∈ xg := xg_in (List.mem_append_right _ (List.mem_append_right _ (List.mem_append_right _ (List.mem_append_right _ (List.mem_append_right _ (List.mem_append_right _ (List.mem_append_right _ (List.mem_append_right _ (List.mem_append_left _ (List.mem_of_getElem? (i := 178) rfl)))))))))) rfl
set_option maxRecDepth 100000 in
theorem kw_1859 : Cond.selects RX12 yX12_bid yX12_bid ∈ xg := xg_in (List.mem_append_right _ (List.mem_append_right _ (List.mem_append_right _ (List.mem_append_right _ (List.mem_append_right _ (List.mem_append_right _ (List.mem_append_right _ (List.mem_append_right _ (List.mem_append_left _ (List.mem_of_getElem? (i := 179) rfl)))))))))) rfl
set_option maxRecDepth 100000 in
theorem kw_1860 : Cond.code yX12_bid cX12_bid 2 (some .int) ∈ xg := xg_in (List.mem_append_right _ (List.mem_append_right _ (List.mem_append_right _ (List.mem_append_right _ (List.mem_append_right _ (List.mem_append_right _ (List.mem_append_right _ (List.mem_append_right _ (List.mem_append_left _ (List.mem_of_getElem? (i := 180) rfl)))))))))) rfl
set_option maxRecDepth 100000 in
theorem kw_1861 : Cond.methodLink RL 132 yX12_must ∈ xg := xg_in (List.mem_append_right _ (List.mem_append_right _ (List.mem_append_right _ (List.mem_append_right _ (List.mem_append_right _ (List.mem_append_right _ (List.mem_append_right _ (List.mem_append_right _ (List.mem_append_left _ (List.mem_of_getElem? (i := 181) rfl)))))))))) rfl
set_option maxRecDepth 100000 in
theorem kw_1862 : Cond.instanceMethod yX12_must ∈ xg := xg_in (List.mem_append_right _ (List.mem_append_right _ (List.mem_append_right _ (List.mem_append_right _ (List.mem_append_right _ (List.mem_append_right _ (List.mem_append_right _ (List.mem_append_right _ (List.mem_append_left _ (List.mem_of_getElem? (i := 182) rfl)))))))))) rfl
set_option maxRecDepth 100000 in
theorem kw_1863 : Cond.selects RX12 yX12_must yX12_must ∈ xg := xg_in (List.mem_append_right _ (List.mem_append_right _ (List.mem_append_right _ (List.mem_append_right _ (List.mem_append_right _ (List.mem_append_right _ (List.mem_append_right _ (List.mem_append_right _ (List.mem_append_left _ (List.mem_of_getElem? (i := 183) rfl)))))))))) rfl
set_option maxRecDepth 100000 in
theorem kw_1864 : Cond.code yX12_must cX12_must 5 (some .int) ∈ xg := xg_in (List.mem_append_right _ (List.mem_append_right _ (List.mem_append_right _ (List.mem_append_right _ (List.mem_append_right _ (List.mem_append_right _ (List.mem_append_right _ (List.mem_append_right _ (List.mem_append_left _ (List.mem_of_getElem? (i := 184) rfl)))))))))) rfl
set_option maxRecDepth 100000 in
theorem kw_1865 : Cond.methodLink RL 136 yX12_ledger ∈ xg := xg_in (List.mem_append_right _ (List.mem_append_right _ (List.mem_append_right _ (List.mem_append_right _ (List.mem_append_right _ (List.mem_append_right _ (List.mem_append_right _ (List.mem_append_right _ (List.mem_append_left _ (List.mem_of_getElem? (i := 185) rfl)))))))))) rfl
set_option maxRecDepth 100000 in
theorem kw_1866 : Cond.instanceMethod yX12_ledger ∈ xg := xg_in (List.mem_append_right _ (List.mem_append_right _ (List.mem_append_right _ (List.mem_append_right _ (List.mem_append_right _ (List.mem_append_right _ (List.mem_append_right _ (List.mem_append_right _ (List.mem_append_left _ (List.mem_of_getElem? (i := 186) rfl)))))))))) rfl
set_option maxRecDepth 100000 in
theorem kw_1867 : Cond.selects RX12 yX12_ledger yX12_ledger ∈ xg := xg_in (List.mem_append_right _ (List.mem_append_right _ (List.mem_append_right _ (List.mem_append_right _ (List.mem_append_right _ (List.mem_append_right _ (List.mem_append_right _ (List.mem_append_right _ (List.mem_append_left _ (List.mem_of_getElem? (i := 187) rfl)))))))))) rfl
set_option maxRecDepth 100000 in
theorem kw_1868 : Cond.code yX12_ledger cX12_ledger 5 (some .int) ∈ xg := xg_in (List.mem_append_right _ (List.mem_append_right _ (List.mem_append_right _ (List.mem_append_right _ (List.mem_append_right _ (List.mem_append_right _ (List.mem_append_right _ (List.mem_append_right _ (List.mem_append_left _ (List.mem_of_getElem? (i := 188) rfl)))))))))) rfl
set_option maxRecDepth 100000 in
theorem kw_1873 : Cond.methodLink RL 140 yX12_votes ∈ xg := xg_in (List.mem_append_right _ (List.mem_append_right _ (List.mem_append_right _ (List.mem_append_right _ (List.mem_append_right _ (List.mem_append_right _ (List.mem_append_right _ (List.mem_append_right _ (List.mem_append_left _ (List.mem_of_getElem? (i := 193) rfl)))))))))) rfl
set_option maxRecDepth 100000 in
theorem kw_1874 : Cond.instanceMethod yX12_votes ∈ xg := xg_in (List.mem_append_right _ (List.mem_append_right _ (List.mem_append_right _ (List.mem_append_right _ (List.mem_append_right _ (List.mem_append_right _ (List.mem_append_right _ (List.mem_append_right _ (List.mem_append_left _ (List.mem_of_getElem? (i := 194) rfl)))))))))) rfl
set_option maxRecDepth 100000 in
theorem kw_1875 : Cond.selects RX12 yX12_votes yX12_votes ∈ xg := xg_in (List.mem_append_right _ (List.mem_append_right _ (List.mem_append_right _ (List.mem_append_right _ (List.mem_append_right _ (List.mem_append_right _ (List.mem_append_right _ (List.mem_append_right _ (List.mem_append_left _ (List.mem_of_getElem? (i := 195) rfl)))))))))) rfl
set_option maxRecDepth 100000 in
theorem kw_1876 : Cond.code yX12_votes cX12_votes 2 (some .int) ∈ xg := xg_in (List.mem_append_right _ (List.mem_append_right _ (List.mem_append_right _ (List.mem_append_right _ (List.mem_append_right _ (List.mem_append_right _ (List.mem_append_right _ (List.mem_append_right _ (List.mem_append_left _ (List.mem_of_getElem? (i := 196) rfl)))))))))) rfl
set_option maxRecDepth 100000 in
theorem kw_1892 : Cond.methodLink RL 144 yX12_party ∈ xg := xg_in (List.mem_append_right _ (List.mem_append_right _ (List.mem_append_right _ (List.mem_append_right _ (List.mem_append_right _ (List.mem_append_right _ (List.mem_append_right _ (List.mem_append_right _ (List.mem_append_left _ (List.mem_of_getElem? (i := 212) rfl)))))))))) rfl
set_option maxRecDepth 100000 in
theorem kw_1893 : Cond.instanceMethod yX12_party ∈ xg := xg_in (List.mem_append_right _ (List.mem_append_right _ (List.mem_append_right _ (List.mem_append_right _ (List.mem_append_right _ (List.mem_append_right _ (List.mem_append_right _ (List.mem_append_right _ (List.mem_append_left _ (List.mem_of_getElem? (i := 213) rfl)))))))))) rfl
set_option maxRecDepth 100000 in
theorem kw_1894 : Cond.selects RX12 yX12_party yX12_party ∈ xg := xg_in (List.mem_append_right _ (List.mem_append_right _ (List.mem_append_right _ (List.mem_append_right _ (List.mem_append_right _ (List.mem_append_right _ (List.mem_append_right _ (List.mem_append_right _ (List.mem_append_left _ (List.mem_of_getElem? (i := 214) rfl)))))))))) rfl
set_option maxRecDepth 100000 in
theorem kw_1895 : Cond.code yX12_party cX12_party 3 (some .int) ∈ xg := xg_in (List.mem_append_right _ (List.mem_append_right _ (List.mem_append_right _ (List.mem_append_right _ (List.mem_append_right _ (List.mem_append_right _ (List.mem_append_right _ (List.mem_append_right _ (List.mem_append_left _ (List.mem_of_getElem? (i := 215) rfl)))))))))) rfl
set_option maxRecDepth 100000 in
theorem kw_1896 : Cond.methodLink RL 148 yX12_least ∈ xg := xg_in (List.mem_append_right _ (List.mem_append_right _ (List.mem_append_right _ (List.mem_append_right _ (List.mem_append_right _ (List.mem_append_right _ (List.mem_append_right _ (List.mem_append_right _ (List.mem_append_left _ (List.mem_of_getElem? (i := 216) rfl)))))))))) rfl
set_option maxRecDepth 100000 in
theorem kw_1897 : Cond.instanceMethod yX12_least ∈ xg := xg_in (List.mem_append_right _ (List.mem_append_right _ (List.mem_append_right _ (List.mem_append_right _ (List.mem_append_right _ (List.mem_append_right _ (List.mem_append_right _ (List.mem_append_right _ (List.mem_append_left _ (List.mem_of_getElem? (i := 217) rfl)))))))))) rfl
set_option maxRecDepth 100000 in
theorem kw_1898 : Cond.selects RX12 yX12_least yX12_least ∈ xg := xg_in (List.mem_append_right _ (List.mem_append_right _ (List.mem_append_right _ (List.mem_append_right _ (List.mem_append_right _ (List.mem_append_right _ (List.mem_append_right _ (List.mem_append_right _ (List.mem_append_left _ (List.mem_of_getElem? (i := 218) rfl)))))))))) rfl
set_option maxRecDepth 100000 in
theorem kw_1899 : Cond.code yX12_least cX12_least 6 (some .int) ∈ xg := xg_in (List.mem_append_right _ (List.mem_append_right _ (List.mem_append_right _ (List.mem_append_right _ (List.mem_append_right _ (List.mem_append_right _ (List.mem_append_right _ (List.mem_append_right _ (List.mem_append_left _ (List.mem_of_getElem? (i := 219) rfl)))))))))) rfl
set_option maxRecDepth 100000 in
theorem kw_1905 : Cond.methodLink RL 152 yX12_cheapest ∈ xg := xg_in (List.mem_append_right _ (List.mem_append_right _ (List.mem_append_right _ (List.mem_append_right _ (List.mem_append_right _ (List.mem_append_right _ (List.mem_append_right _ (List.mem_append_right _ (List.mem_append_left _ (List.mem_of_getElem? (i := 225) rfl)))))))))) rfl
set_option maxRecDepth 100000 in
theorem kw_1906 : Cond.instanceMethod yX12_cheapest ∈ xg := xg_in (List.mem_append_right _ (List.mem_append_right _ (List.mem_append_right _ (List.mem_append_right _ (List.mem_append_right _ (List.mem_append_right _ (List.mem_append_right _ (List.mem_append_right _ (List.mem_append_left _ (List.mem_of_getElem? (i := 226) rfl)))))))))) rfl
set_option maxRecDepth 100000 in
theorem kw_1907 : Cond.selects RX12 yX12_cheapest yX12_cheapest ∈ xg := xg_in (List.mem_append_right _ (List.mem_append_right _ (List.mem_append_right _ (List.mem_append_right _ (List.mem_append_right _ (List.mem_append_right _ (List.mem_append_right _ (List.mem_append_right _ (List.mem_append_left _ (List.mem_of_getElem? (i := 227) rfl)))))))))) rfl
set_option maxRecDepth 100000 in
theorem kw_1908 : Cond.code yX12_cheapest cX12_cheapest 1 (some .int) ∈ xg := xg_in (List.mem_append_right _ (List.mem_append_right _ (List.mem_append_right _ (List.mem_append_right _ (List.mem_append_right _ (List.mem_append_right _ (List.mem_append_right _ (List.mem_append_right _ (List.mem_append_left _ (List.mem_of_getElem? (i := 228) rfl)))))))))) rfl
set_option maxRecDepth 100000 in
theorem kw_1909 : Cond.methodLink RL 156 yX12_feasts ∈ xg := xg_in (List.mem_append_right _ (List.mem_append_right _ (List.mem_append_right _ (List.mem_append_right _ (List.mem_append_right _ (List.mem_append_right _ (List.mem_append_right _ (List.mem_append_right _ (List.mem_append_left _ (List.mem_of_getElem? (i := 229) rfl)))))))))) rfl
set_option maxRecDepth 100000 in
theorem kw_1910 : Cond.instanceMethod yX12_feasts ∈ xg := xg_in (List.mem_append_right _ (List.mem_append_right _ (List.mem_append_right _ (List.mem_append_right _ (List.mem_append_right _ (List.mem_append_right _ (List.mem_append_right _ (List.mem_append_right _ (List.mem_append_left _ (List.mem_of_getElem? (i := 230) rfl)))))))))) rfl
set_option maxRecDepth 100000 in
theorem kw_1911 : Cond.selects RX12 yX12_feasts yX12_feasts ∈ xg := xg_in (List.mem_append_right _ (List.mem_append_right _ (List.mem_append_right _ (List.mem_append_right _ (List.mem_append_right _ (List.mem_append_right _ (List.mem_append_right _ (List.mem_append_right _ (List.mem_append_left _ (List.mem_of_getElem? (i := 231) rfl)))))))))) rfl
set_option maxRecDepth 100000 in
theorem kw_1912 : Cond.code yX12_feasts cX12_feasts 5 (some .int) ∈ xg := xg_in (List.mem_append_right _ (List.mem_append_right _ (List.mem_append_right _ (List.mem_append_right _ (List.mem_append_right _ (List.mem_append_right _ (List.mem_append_right _ (List.mem_append_right _ (List.mem_append_left _ (List.mem_of_getElem? (i := 232) rfl)))))))))) rfl
set_option maxRecDepth 100000 in
theorem kw_1913 : Cond.methodLink RL 160 yX12_queue ∈ xg := xg_in (List.mem_append_right _ (List.mem_append_right _ (List.mem_append_right _ (List.mem_append_right _ (List.mem_append_right _ (List.mem_append_right _ (List.mem_append_right _ (List.mem_append_right _ (List.mem_append_left _ (List.mem_of_getElem? (i := 233) rfl)))))))))) rfl
set_option maxRecDepth 100000 in
theorem kw_1914 : Cond.instanceMethod yX12_queue ∈ xg := xg_in (List.mem_append_right _ (List.mem_append_right _ (List.mem_append_right _ (List.mem_append_right _ (List.mem_append_right _ (List.mem_append_right _ (List.mem_append_right _ (List.mem_append_right _ (List.mem_append_left _ (List.mem_of_getElem? (i := 234) rfl)))))))))) rfl
set_option maxRecDepth 100000 in
theorem kw_1915 : Cond.selects RX12 yX12_queue yX12_queue ∈ xg := xg_in (List.mem_append_right _ (List.mem_append_right _ (List.mem_append_right _ (List.mem_append_right _ (List.mem_append_right _ (List.mem_append_right _ (List.mem_append_right _ (List.mem_append_right _ (List.mem_append_left _ (List.mem_of_getElem? (i := 235) rfl)))))))))) rfl
set_option maxRecDepth 100000 in
theorem kw_1916 : Cond.code yX12_queue cX12_queue 2 (some .int) ∈ xg := xg_in (List.mem_append_right _ (List.mem_append_right _ (List.mem_append_right _ (List.mem_append_right _ (List.mem_append_right _ (List.mem_append_right _ (List.mem_append_right _ (List.mem_append_right _ (List.mem_append_left _ (List.mem_of_getElem? (i := 236) rfl)))))))))) rfl
set_option maxRecDepth 100000 in
theorem kw_1917 : Cond.methodLink RL 164 yX12_drawn ∈ xg := xg_in (List.mem_append_right _ (List.mem_append_right _ (List.mem_append_right _ (List.mem_append_right _ (List.mem_append_right _ (List.mem_append_right _ (List.mem_append_right _ (List.mem_append_right _ (List.mem_append_left _ (List.mem_of_getElem? (i := 237) rfl)))))))))) rfl
set_option maxRecDepth 100000 in
theorem kw_1918 : Cond.instanceMethod yX12_drawn ∈ xg := xg_in (List.mem_append_right _ (List.mem_append_right _ (List.mem_append_right _ (List.mem_append_right _ (List.mem_append_right _ (List.mem_append_right _ (List.mem_append_right _ (List.mem_append_right _ (List.mem_append_left _ (List.mem_of_getElem? (i := 238) rfl)))))))))) rfl
set_option maxRecDepth 100000 in
theorem kw_1919 : Cond.selects RX12 yX12_drawn yX12_drawn ∈ xg := xg_in (List.mem_append_right _ (List.mem_append_right _ (List.mem_append_right _ (List.mem_append_right _ (List.mem_append_right _ (List.mem_append_right _ (List.mem_append_right _ (List.mem_append_right _ (List.mem_append_left _ (List.mem_of_getElem? (i := 239) rfl)))))))))) rfl
set_option maxRecDepth 100000 in
theorem kw_1920 : Cond.code yX12_drawn cX12_drawn 3 (some .int) ∈ xg := xg_in (List.mem_append_right _ (List.mem_append_right _ (List.mem_append_right _ (List.mem_append_right _ (List.mem_append_right _ (List.mem_append_right _ (List.mem_append_right _ (List.mem_append_right _ (List.mem_append_right _ (List.mem_of_getElem? (i := 0) rfl)))))))))) rfl
set_option maxRecDepth 100000 in
theorem kw_1929 : Cond.methodLink RL 169 yX12_odds ∈ xg := xg_in (List.mem_append_right _ (List.mem_append_right _ (List.mem_append_right _ (List.mem_append_right _ (List.mem_append_right _ (List.mem_append_right _ (List.mem_append_right _ (List.mem_append_right _ (List.mem_append_right _ (List.mem_of_getElem? (i := 9) rfl)))))))))) rfl
set_option maxRecDepth 100000 in
theorem kw_1930 : Cond.instanceMethod yX12_odds ∈ xg := xg_in (List.mem_append_right _ (List.mem_append_right _ (List.mem_append_right _ (List.mem_append_right _ (List.mem_append_right _ (List.mem_append_right _ (List.mem_append_right _ (List.mem_append_right _ (List.mem_append_right _ (List.mem_of_getElem? (i := 10) rfl)))))))))) rfl
set_option maxRecDepth 100000 in
theorem kw_1931 : Cond.selects RX12 yX12_odds yX12_odds ∈ xg := xg_in (List.mem_append_right _ (List.mem_append_right _ (List.mem_append_right _ (List.mem_append_right _ (List.mem_append_right _ (List.mem_append_right _ (List.mem_append_right _ (List.mem_append_right _ (List.mem_append_right _ (List.mem_of_getElem? (i := 11) rfl)))))))))) rfl
set_option maxRecDepth 100000 in
theorem kw_1932 : Cond.code yX12_odds cX12_odds 6 (some .int) ∈ xg := xg_in (List.mem_append_right _ (List.mem_append_right _ (List.mem_append_right _ (List.mem_append_right _ (List.mem_append_right _ (List.mem_append_right _ (List.mem_append_right _ (List.mem_append_right _ (List.mem_append_right _ (List.mem_of_getElem? (i := 12) rfl)))))))))) rfl
set_option maxRecDepth 100000 in
theorem kw_1941 : Cond.methodLink RL 173 yX12_roll ∈ xg := xg_in (List.mem_append_right _ (List.mem_append_right _ (List.mem_append_right _ (List.mem_append_right _ (List.mem_append_right _ (List.mem_append_right _ (List.mem_append_right _ (List.mem_append_right _ (List.mem_append_right _ (List.mem_of_getElem? (i := 21) rfl)))))))))) rfl
set_option maxRecDepth 100000 in
theorem kw_1942 : Cond.instanceMethod yX12_roll ∈ xg := xg_in (List.mem_append_right _ (List.mem_append_right _ (List.mem_append_right _ (List.mem_append_right _ (List.mem_append_right _ (List.mem_append_right _ (List.mem_append_right _ (List.mem_append_right _ (List.mem_append_right _ (List.mem_of_getElem? (i := 22) rfl)))))))))) rfl
set_option maxRecDepth 100000 in
theorem kw_1943 : Cond.selects RX12 yX12_roll yX12_roll ∈ xg := xg_in (List.mem_append_right _ (List.mem_append_right _ (List.mem_append_right _ (List.mem_append_right _ (List.mem_append_right _ (List.mem_append_right _ (List.mem_append_right _ (List.mem_append_right _ (List.mem_append_right _ (List.mem_of_getElem? (i := 23) rfl)))))))))) rfl
set_option maxRecDepth 100000 in
theorem kw_1944 : Cond.code yX12_roll cX12_roll 6 (some .int) ∈ xg := xg_in (List.mem_append_right _ (List.mem_append_right _ (List.mem_append_right _ (List.mem_append_right _ (List.mem_append_right _ (List.mem_append_right _ (List.mem_append_right _ (List.mem_append_right _ (List.mem_append_right _ (List.mem_of_getElem? (i := 24) rfl)))))))))) rfl
set_option maxRecDepth 100000 in
theorem kw_1957 : Cond.methodLink RL 177 yX12_rolled ∈ xg := xg_in (List.mem_append_right _ (List.mem_append_right _ (List.mem_append_right _ (List.mem_append_right _ (List.mem_append_right _ (List.mem_append_right _ (List.mem_append_right _ (List.mem_append_right _ (List.mem_append_right _ (List.mem_of_getElem? (i := 37) rfl)))))))))) rfl
set_option maxRecDepth 100000 in
theorem kw_1958 : Cond.instanceMethod yX12_rolled ∈ xg := xg_in (List.mem_append_right _ (List.mem_append_right _ (List.mem_append_right _ (List.mem_append_right _ (List.mem_append_right _ (List.mem_append_right _ (List.mem_append_right _ (List.mem_append_right _ (List.mem_append_right _ (List.mem_of_getElem? (i := 38) rfl)))))))))) rfl
set_option maxRecDepth 100000 in
theorem kw_1959 : Cond.selects RX12 yX12_rolled yX12_rolled ∈ xg := xg_in (List.mem_append_right _ (List.mem_append_right _ (List.mem_append_right _ (List.mem_append_right _ (List.mem_append_right _ (List.mem_append_right _ (List.mem_append_right _ (List.mem_append_right _ (List.mem_append_right _ (List.mem_of_getElem? (i := 39) rfl)))))))))) rfl
set_option maxRecDepth 100000 in
theorem kw_1960 : Cond.code yX12_rolled cX12_rolled 2 (some .int) ∈ xg := xg_in (List.mem_append_right _ (List.mem_append_right _ (List.mem_append_right _ (List.mem_append_right _ (List.mem_append_right _ (List.mem_append_right _ (List.mem_append_right _ (List.mem_append_right _ (List.mem_append_right _ (List.mem_of_getElem? (i := 40) rfl)))))))))) rfl
set_option maxRecDepth 100000 in
theorem kw_1961 : Cond.methodLink RL 181 yX12_sentence ∈ xg := xg_in (List.mem_append_right _ (List.mem_append_right _ (List.mem_append_right _ (List.mem_append_right _ (List.mem_append_right _ (List.mem_append_right _ (List.mem_append_right _ (List.mem_append_right _ (List.mem_append_right _ (List.mem_of_getElem? (i := 41) rfl)))))))))) rfl
set_option maxRecDepth 100000 in
theorem kw_1962 : Cond.instanceMethod yX12_sentence ∈ xg := xg_in (List.mem_append_right _ (List.mem_append_right _ (List.mem_append_right _ (List.mem_append_right _ (List.mem_append_right _ (List.mem_append_right _ (List.mem_append_right _ (List.mem_append_right _ (List.mem_append_right _ (List.mem_of_getElem? (i := 42) rfl)))))))))) rfl
set_option maxRecDepth 100000 in
theorem kw_1963 : Cond.selects RX12 yX12_sentence yX12_sentence ∈ xg := xg_in (List.mem_append_right _ (List.mem_append_right _ (List.mem_append_right _ (List.mem_append_right _ (List.mem_append_right _ (List.mem_append_right _ (List.mem_append_right _ (List.mem_append_right _ (List.mem_append_right _ (List.mem_of_getElem? (i := 43) rfl)))))))))) rfl
set_option maxRecDepth 100000 in
theorem kw_1964 : Cond.code yX12_sentence cX12_sentence 3 (some .int) ∈ xg := xg_in (List.mem_append_right _ (List.mem_append_right _ (List.mem_append_right _ (List.mem_append_right _ (List.mem_append_right _ (List.mem_append_right _ (List.mem_append_right _ (List.mem_append_right _ (List.mem_append_right _ (List.mem_of_getElem? (i := 44) rfl)))))))))) rfl
set_option maxRecDepth 100000 in
theorem kw_1989 : Cond.methodLink RL 185 yX12_said ∈ xg := xg_in (List.mem_append_right _ (List.mem_append_right _ (List.mem_append_right _ (List.mem_append_right _ (List.mem_append_right _ (List.mem_append_right _ (List.mem_append_right _ (List.mem_append_right _ (List.mem_append_right _ (List.mem_of_getElem? (i := 69) rfl)))))))))) rfl
set_option maxRecDepth 100000 in
theorem kw_1990 : Cond.instanceMethod yX12_said ∈ xg := xg_in (List.mem_append_right _ (List.mem_append_right _ (List.mem_append_right _ (List.mem_append_right _ (List.mem_append_right _ (List.mem_append_right _ (List.mem_append_right _ (List.mem_append_right _ (List.mem_append_right _ (List.mem_of_getElem? (i := 70) rfl)))))))))) rfl
set_option maxRecDepth 100000 in
theorem kw_1991 : Cond.selects RX12 yX12_said yX12_said ∈ xg := xg_in (List.mem_append_right _ (List.mem_append_right _ (List.mem_append_right _ (List.mem_append_right _ (List.mem_append_right _ (List.mem_append_right _ (List.mem_append_right _ (List.mem_append_right _ (List.mem_append_right _ (List.mem_of_getElem? (i := 71) rfl)))))))))) rfl
set_option maxRecDepth 100000 in
theorem kw_1992 : Cond.code yX12_said cX12_said 4 (some .int) ∈ xg := xg_in (List.mem_append_right _ (List.mem_append_right _ (List.mem_append_right _ (List.mem_append_right _ (List.mem_append_right _ (List.mem_append_right _ (List.mem_append_right _ (List.mem_append_right _ (List.mem_append_right _ (List.mem_of_getElem? (i := 72) rfl)))))))))) rfl
set_option maxRecDepth 100000 in
theorem kw_2001 : Cond.methodLink RL 189 yX12_image ∈ xg := xg_in (List.mem_append_right _ (List.mem_append_right _ (List.mem_append_right _ (List.mem_append_right _ (List.mem_append_right _ (List.mem_append_right _ (List.mem_append_right _ (List.mem_append_right _ (List.mem_append_right _ (List.mem_of_getElem? (i := 81) rfl)))))))))) rfl
set_option maxRecDepth 100000 in
theorem kw_2002 : Cond.instanceMethod yX12_image ∈ xg := xg_in (List.mem_append_right _ (List.mem_append_right _ (List.mem_append_right _ (List.mem_append_right _ (List.mem_append_right _ (List.mem_append_right _ (List.mem_append_right _ (List.mem_append_right _ (List.mem_append_right _ (List.mem_of_getElem? (i := 82) rfl)))))))))) rfl
set_option maxRecDepth 100000 in
theorem kw_2003 : Cond.selects RX12 yX12_image yX12_image ∈ xg := xg_in (List.mem_append_right _ (List.mem_append_right _ (List.mem_append_right _ (List.mem_append_right _ (List.mem_append_right _ (List.mem_append_right _ (List.mem_append_right _ (List.mem_append_right _ (List.mem_append_right _ (List.mem_of_getElem? (i := 83) rfl)))))))))) rfl
set_option maxRecDepth 100000 in
theorem kw_2004 : Cond.code yX12_image cX12_image 3 (some .boolean) ∈ xg := xg_in (List.mem_append_right _ (List.mem_append_right _ (List.mem_append_right _ (List.mem_append_right _ (List.mem_append_right _ (List.mem_append_right _ (List.mem_append_right _ (List.mem_append_right _ (List.mem_append_right _ (List.mem_of_getElem? (i := 84) rfl)))))))))) rfl
set_option maxRecDepth 100000 in
theorem kw_2005 : Cond.methodLink RL 193 yX12_restore ∈ xg := xg_in (List.mem_append_right _ (List.mem_append_right _ (List.mem_append_right _ (List.mem_append_right _ (List.mem_append_right _ (List.mem_append_right _ (List.mem_append_right _ (List.mem_append_right _ (List.mem_append_right _ (List.mem_of_getElem? (i := 85) rfl)))))))))) rfl
set_option maxRecDepth 100000 in
theorem kw_2006 : Cond.instanceMethod yX12_restore ∈ xg := xg_in (List.mem_append_right _ (List.mem_append_right _ (List.mem_append_right _ (List.mem_append_right _ (List.mem_append_right _ (List.mem_append_right _ (List.mem_append_right _ (List.mem_append_right _ (List.mem_append_right _ (List.mem_of_getElem? (i := 86) rfl)))))))))) rfl
set_option maxRecDepth 100000 in
theorem kw_2007 : Cond.selects RX12 yX12_restore yX12_restore ∈ xg := xg_in (List.mem_append_right _ (List.mem_append_right _ (List.mem_append_right _ (List.mem_append_right _ (List.mem_append_right _ (List.mem_append_right _ (List.mem_append_right _ (List.mem_append_right _ (List.mem_append_right _ (List.mem_of_getElem? (i := 87) rfl)))))))))) rfl
set_option maxRecDepth 100000 in
theorem kw_2008 : Cond.code yX12_restore cX12_restore 3 (some .boolean) ∈ xg := xg_in (List.mem_append_right _ (List.mem_append_right _ (List.mem_append_right _ (List.mem_append_right _ (List.mem_append_right _ (List.mem_append_right _ (List.mem_append_right _ (List.mem_append_right _ (List.mem_append_right _ (List.mem_of_getElem? (i := 88) rfl)))))))))) rfl
set_option maxRecDepth 100000 in
theorem kw_2009 : Cond.methodLink RL 197 yX12_count ∈ xg := xg_in (List.mem_append_right _ (List.mem_append_right _ (List.mem_append_right _ (List.mem_append_right _ (List.mem_append_right _ (List.mem_append_right _ (List.mem_append_right _ (List.mem_append_right _ (List.mem_append_right _ (List.mem_of_getElem? (i := 89) rfl)))))))))) rfl
set_option maxRecDepth 100000 in
theorem kw_2010 : Cond.instanceMethod yX12_count ∈ xg := xg_in (List.mem_append_right _ (List.mem_append_right _ (List.mem_append_right _ (List.mem_append_right _ (List.mem_append_right _ (List.mem_append_right _ (List.mem_append_right _ (List.mem_append_right _ (List.mem_append_right _ (List.mem_of_getElem? (i := 90) rfl)))))))))) rfl
set_option maxRecDepth 100000 in
theorem kw_2011 : Cond.selects RX12 yX12_count yX12_count ∈ xg := xg_in (List.mem_append_right _ (List.mem_append_right _ (List.mem_append_right _ (List.mem_append_right _ (List.mem_append_right _ (List.mem_append_right _ (List.mem_append_right _ (List.mem_append_right _ (List.mem_append_right _ (List.mem_of_getElem? (i := 91) rfl)))))))))) rfl
set_option maxRecDepth 100000 in
theorem kw_2012 : Cond.code yX12_count cX12_count 2 (some .int) ∈ xg := xg_in (List.mem_append_right _ (List.mem_append_right _ (List.mem_append_right _ (List.mem_append_right _ (List.mem_append_right _ (List.mem_append_right _ (List.mem_append_right _ (List.mem_append_right _ (List.mem_append_right _ (List.mem_of_getElem? (i := 92) rfl)))))))))) rfl
set_option maxRecDepth 100000 in
theorem kw_221 : Cond.arrayClass .int ∈ xg := xg_in (List.mem_append_right _ (List.mem_append_left _ (List.mem_of_getElem? (i := 221) rfl))) rfl
set_option maxRecDepth 100000 in
theorem kw_222 : Cond.classLink RX11 26 RX8 ∈ xg := xg_in (List.mem_append_right _ (List.mem_append_left _ (List.mem_of_getElem? (i := 222) rfl))) rfl
set_option maxRecDepth 100000 in
theorem kw_223 : Cond.instantiable RX8 3 ∈ xg := xg_in (List.mem_append_right _ (List.mem_append_left _ (List.mem_of_getElem? (i := 223) rfl))) rfl
set_option maxRecDepth 100000 in
theorem kw_225 : Cond.instanceMethod yX8_init ∈ xg := xg_in (List.mem_append_right _ (List.mem_append_left _ (List.mem_of_getElem? (i := 225) rfl))) rfl
set_option maxRecDepth 100000 in
theorem kw_226 : Cond.code yX8_init cX8_init 3 none ∈ xg := xg_in (List.mem_append_right _ (List.mem_append_left _ (List.mem_of_getElem? (i := 226) rfl))) rfl
set_option maxRecDepth 100000 in
theorem kw_227 : Cond.methodLink RX8 3 objectInit ∈ xg := xg_in (List.mem_append_right _ (List.mem_append_left _ (List.mem_of_getElem? (i := 227) rfl))) rfl
set_option maxRecDepth 100000 in
theorem kw_23 : Cond.initialized "java/util/NoSuchElementException" ∈ xg := xg_in (List.mem_append_right _ (List.mem_append_left _ (List.mem_of_getElem? (i := 23) rfl))) rfl
set_option maxRecDepth 100000 in
theorem kw_239 : Cond.classLink RX11 35 RX2 ∈ xg := xg_in (List.mem_append_right _ (List.mem_append_left _ (List.mem_of_getElem? (i := 239) rfl))) rfl
set_option maxRecDepth 100000 in
theorem kw_240 : Cond.instantiable RX2 15 ∈ xg := xg_in (List.mem_append_right _ (List.mem_append_right _ (List.mem_append_left _ (List.mem_of_getElem? (i := 0) rfl)))) rfl
set_option maxRecDepth 100000 in
theorem kw_242 : Cond.instanceMethod yX2_init ∈ xg := xg_in (List.mem_append_right _ (List.mem_append_right _ (List.mem_append_left _ (List.mem_of_getElem? (i := 2) rfl)))) rfl
set_option maxRecDepth 100000 in
theorem kw_243 : Cond.code yX2_init cX2_init 2 none ∈ xg := xg_in (List.mem_append_right _ (List.mem_append_right _ (List.mem_append_left _ (List.mem_of_getElem? (i := 3) rfl)))) rfl
set_option maxRecDepth 100000 in
theorem kw_244 : Cond.methodLink RX2 3 objectInit ∈ xg := xg_in (List.mem_append_right _ (List.mem_append_right _ (List.mem_append_left _ (List.mem_of_getElem? (i := 4) rfl)))) rfl
set_option maxRecDepth 100000 in
theorem kw_25 : Cond.classLink RL 8 RX11 ∈ xg := xg_in (List.mem_append_right _ (List.mem_append_left _ (List.mem_of_getElem? (i := 25) rfl))) rfl
set_option maxRecDepth 100000 in
theorem kw_26 : Cond.instantiable RX11 15 ∈ xg := xg_in (List.mem_append_right _ (List.mem_append_left _ (List.mem_of_getElem? (i := 26) rfl))) rfl
set_option maxRecDepth 100000 in
theorem kw_27 : Cond.methodLink RL 15 yX11_init ∈ xg := xg_in (List.mem_append_right _ (List.mem_append_left _ (List.mem_of_getElem? (i := 27) rfl))) rfl
set_option maxRecDepth 100000 in
theorem kw_28 : Cond.instanceMethod yX11_init ∈ xg := xg_in (List.mem_append_right _ (List.mem_append_left _ (List.mem_of_getElem? (i := 28) rfl))) rfl
set_option maxRecDepth 100000 in
theorem kw_29 : Cond.code yX11_init cX11_init 2 none ∈ xg := xg_in (List.mem_append_right _ (List.mem_append_left _ (List.mem_of_getElem? (i := 29) rfl))) rfl
set_option maxRecDepth 100000 in
theorem kw_30 : Cond.methodLink RX11 1 objectInit ∈ xg := xg_in (List.mem_append_right _ (List.mem_append_left _ (List.mem_of_getElem? (i := 30) rfl))) rfl
set_option maxRecDepth 100000 in
theorem kw_31 : Cond.instanceMethod objectInit ∈ xg := xg_in (List.mem_append_right _ (List.mem_append_left _ (List.mem_of_getElem? (i := 31) rfl))) rfl
set_option maxRecDepth 100000 in
theorem kw_313 : Cond.classLink RX11 47 RX9 ∈ xg := xg_in (List.mem_append_right _ (List.mem_append_right _ (List.mem_append_left _ (List.mem_of_getElem? (i := 73) rfl)))) rfl
set_option maxRecDepth 100000 in
theorem kw_314 : Cond.instantiable RX9 3 ∈ xg := xg_in (List.mem_append_right _ (List.mem_append_right _ (List.mem_append_left _ (List.mem_of_getElem? (i := 74) rfl)))) rfl
set_option maxRecDepth 100000 in
theorem kw_316 : Cond.instanceMethod yX9_init ∈ xg := xg_in (List.mem_append_right _ (List.mem_append_right _ (List.mem_append_left _ (List.mem_of_getElem? (i := 76) rfl)))) rfl
set_option maxRecDepth 100000 in
theorem kw_317 : Cond.code yX9_init cX9_init 3 none ∈ xg := xg_in (List.mem_append_right _ (List.mem_append_right _ (List.mem_append_left _ (List.mem_of_getElem? (i := 77) rfl)))) rfl
set_option maxRecDepth 100000 in
theorem kw_318 : Cond.methodLink RX9 1 objectInit ∈ xg := xg_in (List.mem_append_right _ (List.mem_append_right _ (List.mem_append_left _ (List.mem_of_getElem? (i := 78) rfl)))) rfl
set_option maxRecDepth 100000 in
theorem kw_319 : Cond.classLink RX9 9 RX2 ∈ xg := xg_in (List.mem_append_right _ (List.mem_append_right _ (List.mem_append_left _ (List.mem_of_getElem? (i := 79) rfl)))) rfl
set_option maxRecDepth 100000 in
theorem kw_32 : Cond.code objectInit ⟨#[0xb1]⟩ 1 none ∈ xg := xg_in (List.mem_append_right _ (List.mem_append_left _ (List.mem_of_getElem? (i := 32) rfl))) rfl
set_option maxRecDepth 100000 in
theorem kw_33 : Cond.classLink RX11 7 RX6 ∈ xg := xg_in (List.mem_append_right _ (List.mem_append_left _ (List.mem_of_getElem? (i := 33) rfl))) rfl
set_option maxRecDepth 100000 in
theorem kw_333 : Cond.classLink RX11 54 RX4 ∈ xg := xg_in (List.mem_append_right _ (List.mem_append_right _ (List.mem_append_left _ (List.mem_of_getElem? (i := 93) rfl)))) rfl
set_option maxRecDepth 100000 in
theorem kw_334 : Cond.instantiable RX4 11 ∈ xg := xg_in (List.mem_append_right _ (List.mem_append_right _ (List.mem_append_left _ (List.mem_of_getElem? (i := 94) rfl)))) rfl
set_option maxRecDepth 100000 in
theorem kw_336 : Cond.instanceMethod yX4_init ∈ xg := xg_in (List.mem_append_right _ (List.mem_append_right _ (List.mem_append_left _ (List.mem_of_getElem? (i := 96) rfl)))) rfl
set_option maxRecDepth 100000 in
theorem kw_337 : Cond.code yX4_init cX4_init 3 none ∈ xg := xg_in (List.mem_append_right _ (List.mem_append_right _ (List.mem_append_left _ (List.mem_of_getElem? (i := 97) rfl)))) rfl
set_option maxRecDepth 100000 in
theorem kw_338 : Cond.methodLink RX4 3 objectInit ∈ xg := xg_in (List.mem_append_right _ (List.mem_append_right _ (List.mem_append_left _ (List.mem_of_getElem? (i := 98) rfl)))) rfl
set_option maxRecDepth 100000 in
theorem kw_34 : Cond.instantiable RX6 14 ∈ xg := xg_in (List.mem_append_right _ (List.mem_append_left _ (List.mem_of_getElem? (i := 34) rfl))) rfl
set_option maxRecDepth 100000 in
theorem kw_36 : Cond.instanceMethod yX6_init ∈ xg := xg_in (List.mem_append_right _ (List.mem_append_left _ (List.mem_of_getElem? (i := 36) rfl))) rfl
set_option maxRecDepth 100000 in
theorem kw_37 : Cond.code yX6_init cX6_init 1 none ∈ xg := xg_in (List.mem_append_right _ (List.mem_append_left _ (List.mem_of_getElem? (i := 37) rfl))) rfl
set_option maxRecDepth 100000 in
theorem kw_378 : Cond.classLink RX11 61 RX5 ∈ xg := xg_in (List.mem_append_right _ (List.mem_append_right _ (List.mem_append_left _ (List.mem_of_getElem? (i := 138) rfl)))) rfl
set_option maxRecDepth 100000 in
theorem kw_379 : Cond.instantiable RX5 8 ∈ xg := xg_in (List.mem_append_right _ (List.mem_append_right _ (List.mem_append_left _ (List.mem_of_getElem? (i := 139) rfl)))) rfl
set_option maxRecDepth 100000 in
theorem kw_38 : Cond.methodLink RX6 3 objectInit ∈ xg := xg_in (List.mem_append_right _ (List.mem_append_left _ (List.mem_of_getElem? (i := 38) rfl))) rfl
set_option maxRecDepth 100000 in
theorem kw_381 : Cond.instanceMethod yX5_init ∈ xg := xg_in (List.mem_append_right _ (List.mem_append_right _ (List.mem_append_left _ (List.mem_of_getElem? (i := 141) rfl)))) rfl
set_option maxRecDepth 100000 in
theorem kw_382 : Cond.code yX5_init cX5_init 3 none ∈ xg := xg_in (List.mem_append_right _ (List.mem_append_right _ (List.mem_append_left _ (List.mem_of_getElem? (i := 142) rfl)))) rfl
set_option maxRecDepth 100000 in
theorem kw_383 : Cond.methodLink RX5 5 objectInit ∈ xg := xg_in (List.mem_append_right _ (List.mem_append_right _ (List.mem_append_left _ (List.mem_of_getElem? (i := 143) rfl)))) rfl
set_option maxRecDepth 100000 in
theorem kw_40 : Cond.methodLink RX6 21 yX6_keepOwn ∈ xg := xg_in (List.mem_append_right _ (List.mem_append_left _ (List.mem_of_getElem? (i := 40) rfl))) rfl
set_option maxRecDepth 100000 in
theorem kw_410 : Cond.classLink RX11 71 RX10 ∈ xg := xg_in (List.mem_append_right _ (List.mem_append_right _ (List.mem_append_left _ (List.mem_of_getElem? (i := 170) rfl)))) rfl
set_option maxRecDepth 100000 in
theorem kw_411 : Cond.instantiable RX10 5 ∈ xg := xg_in (List.mem_append_right _ (List.mem_append_right _ (List.mem_append_left _ (List.mem_of_getElem? (i := 171) rfl)))) rfl
set_option maxRecDepth 100000 in
theorem kw_413 : Cond.instanceMethod yX10_init ∈ xg := xg_in (List.mem_append_right _ (List.mem_append_right _ (List.mem_append_left _ (List.mem_of_getElem? (i := 173) rfl)))) rfl
set_option maxRecDepth 100000 in
theorem kw_414 : Cond.code yX10_init cX10_init 3 none ∈ xg := xg_in (List.mem_append_right _ (List.mem_append_right _ (List.mem_append_left _ (List.mem_of_getElem? (i := 174) rfl)))) rfl
set_option maxRecDepth 100000 in
theorem kw_415 : Cond.methodLink RX10 3 objectInit ∈ xg := xg_in (List.mem_append_right _ (List.mem_append_right _ (List.mem_append_left _ (List.mem_of_getElem? (i := 175) rfl)))) rfl
set_option maxRecDepth 100000 in
theorem kw_42 : Cond.instanceMethod yX6_keepOwn ∈ xg := xg_in (List.mem_append_right _ (List.mem_append_left _ (List.mem_of_getElem? (i := 42) rfl))) rfl
set_option maxRecDepth 100000 in
theorem kw_43 : Cond.code yX6_keepOwn cX6_keepOwn 5 none ∈ xg := xg_in (List.mem_append_right _ (List.mem_append_left _ (List.mem_of_getElem? (i := 43) rfl))) rfl
set_option maxRecDepth 100000 in
theorem kw_432 : Cond.classLink RX11 80 RX3 ∈ xg := xg_in (List.mem_append_right _ (List.mem_append_right _ (List.mem_append_left _ (List.mem_of_getElem? (i := 192) rfl)))) rfl
set_option maxRecDepth 100000 in
theorem kw_433 : Cond.instantiable RX3 5 ∈ xg := xg_in (List.mem_append_right _ (List.mem_append_right _ (List.mem_append_left _ (List.mem_of_getElem? (i := 193) rfl)))) rfl
set_option maxRecDepth 100000 in
theorem kw_435 : Cond.instanceMethod yX3_init ∈ xg := xg_in (List.mem_append_right _ (List.mem_append_right _ (List.mem_append_left _ (List.mem_of_getElem? (i := 195) rfl)))) rfl
set_option maxRecDepth 100000 in
theorem kw_436 : Cond.code yX3_init cX3_init 3 none ∈ xg := xg_in (List.mem_append_right _ (List.mem_append_right _ (List.mem_append_left _ (List.mem_of_getElem? (i := 196) rfl)))) rfl
set_option maxRecDepth 100000 in
theorem kw_437 : Cond.methodLink RX3 3 objectInit ∈ xg := xg_in (List.mem_append_right _ (List.mem_append_right _ (List.mem_append_left _ (List.mem_of_getElem? (i := 197) rfl)))) rfl
set_option maxRecDepth 100000 in
theorem kw_456 : Cond.classLink RX11 87 RX0 ∈ xg := xg_in (List.mem_append_right _ (List.mem_append_right _ (List.mem_append_left _ (List.mem_of_getElem? (i := 216) rfl)))) rfl
set_option maxRecDepth 100000 in
theorem kw_457 : Cond.instantiable RX0 1 ∈ xg := xg_in (List.mem_append_right _ (List.mem_append_right _ (List.mem_append_left _ (List.mem_of_getElem? (i := 217) rfl)))) rfl
set_option maxRecDepth 100000 in
theorem kw_459 : Cond.instanceMethod yX0_init ∈ xg := xg_in (List.mem_append_right _ (List.mem_append_right _ (List.mem_append_left _ (List.mem_of_getElem? (i := 219) rfl)))) rfl
set_option maxRecDepth 100000 in
theorem kw_460 : Cond.code yX0_init cX0_init 1 none ∈ xg := xg_in (List.mem_append_right _ (List.mem_append_right _ (List.mem_append_left _ (List.mem_of_getElem? (i := 220) rfl)))) rfl
set_option maxRecDepth 100000 in
theorem kw_461 : Cond.methodLink RX0 1 objectInit ∈ xg := xg_in (List.mem_append_right _ (List.mem_append_right _ (List.mem_append_left _ (List.mem_of_getElem? (i := 221) rfl)))) rfl
set_option maxRecDepth 100000 in
theorem kw_467 : Cond.classLink RX11 94 RX1 ∈ xg := xg_in (List.mem_append_right _ (List.mem_append_right _ (List.mem_append_left _ (List.mem_of_getElem? (i := 227) rfl)))) rfl
set_option maxRecDepth 100000 in
theorem kw_469 : Cond.instantiable RX1 4 ∈ xg := xg_in (List.mem_append_right _ (List.mem_append_right _ (List.mem_append_left _ (List.mem_of_getElem? (i := 229) rfl)))) rfl
set_option maxRecDepth 100000 in
theorem kw_471 : Cond.instanceMethod yX1_init ∈ xg := xg_in (List.mem_append_right _ (List.mem_append_right _ (List.mem_append_left _ (List.mem_of_getElem? (i := 231) rfl)))) rfl
set_option maxRecDepth 100000 in
theorem kw_472 : Cond.code yX1_init cX1_init 2 none ∈ xg := xg_in (List.mem_append_right _ (List.mem_append_right _ (List.mem_append_left _ (List.mem_of_getElem? (i := 232) rfl)))) rfl
set_option maxRecDepth 100000 in
theorem kw_473 : Cond.methodLink RX1 1 objectInit ∈ xg := xg_in (List.mem_append_right _ (List.mem_append_right _ (List.mem_append_left _ (List.mem_of_getElem? (i := 233) rfl)))) rfl
set_option maxRecDepth 100000 in
theorem kw_474 : Cond.classLink RX1 7 RX7 ∈ xg := xg_in (List.mem_append_right _ (List.mem_append_right _ (List.mem_append_left _ (List.mem_of_getElem? (i := 234) rfl)))) rfl
set_option maxRecDepth 100000 in
theorem kw_476 : Cond.classLink RX1 16 RX2 ∈ xg := xg_in (List.mem_append_right _ (List.mem_append_right _ (List.mem_append_left _ (List.mem_of_getElem? (i := 236) rfl)))) rfl
set_option maxRecDepth 100000 in
theorem kw_478 : Cond.classLink RX1 25 RX5 ∈ xg := xg_in (List.mem_append_right _ (List.mem_append_right _ (List.mem_append_left _ (List.mem_of_getElem? (i := 238) rfl)))) rfl
set_option maxRecDepth 100000 in
theorem kw_480 : Cond.fieldLink RX1 10 RX1 "told" "LNamesAgain$Told;" ∈ xg := xg_in (List.mem_append_right _ (List.mem_append_right _ (List.mem_append_right _ (List.mem_append_left _ (List.mem_of_getElem? (i := 0) rfl))))) rfl
set_option maxRecDepth 100000 in
theorem kw_482 : Cond.fieldLink RX1 21 RX1 "life" "LNamesAgain$Life;" ∈ xg := xg_in (List.mem_append_right _ (List.mem_append_right _ (List.mem_append_right _ (List.mem_append_left _ (List.mem_of_getElem? (i := 2) rfl))))) rfl
set_option maxRecDepth 100000 in
theorem kw_484 : Cond.fieldLink RX1 30 RX1 "saying" "LNamesAgain$Sentence;" ∈ xg := xg_in (List.mem_append_right _ (List.mem_append_right _ (List.mem_append_right _ (List.mem_append_left _ (List.mem_of_getElem? (i := 4) rfl))))) rfl
set_option maxRecDepth 100000 in
theorem kw_542 : Cond.methodLink RL 19 yX11_feed ∈ xg := xg_in (List.mem_append_right _ (List.mem_append_right _ (List.mem_append_right _ (List.mem_append_left _ (List.mem_of_getElem? (i := 62) rfl))))) rfl
set_option maxRecDepth 100000 in
theorem kw_543 : Cond.instanceMethod yX11_feed ∈ xg := xg_in (List.mem_append_right _ (List.mem_append_right _ (List.mem_append_right _ (List.mem_append_left _ (List.mem_of_getElem? (i := 63) rfl))))) rfl
set_option maxRecDepth 100000 in
theorem kw_544 : Cond.selects RX11 yX11_feed yX11_feed ∈ xg := xg_in (List.mem_append_right _ (List.mem_append_right _ (List.mem_append_right _ (List.mem_append_left _ (List.mem_of_getElem? (i := 64) rfl))))) rfl
set_option maxRecDepth 100000 in
theorem kw_545 : Cond.code yX11_feed cX11_feed 6 (some .int) ∈ xg := xg_in (List.mem_append_right _ (List.mem_append_right _ (List.mem_append_right _ (List.mem_append_left _ (List.mem_of_getElem? (i := 65) rfl))))) rfl
set_option maxRecDepth 100000 in
theorem kw_554 : Cond.methodLink RL 24 yX11_end ∈ xg := xg_in (List.mem_append_right _ (List.mem_append_right _ (List.mem_append_right _ (List.mem_append_left _ (List.mem_of_getElem? (i := 74) rfl))))) rfl
set_option maxRecDepth 100000 in
theorem kw_555 : Cond.instanceMethod yX11_end ∈ xg := xg_in (List.mem_append_right _ (List.mem_append_right _ (List.mem_append_right _ (List.mem_append_left _ (List.mem_of_getElem? (i := 75) rfl))))) rfl
set_option maxRecDepth 100000 in
theorem kw_556 : Cond.selects RX11 yX11_end yX11_end ∈ xg := xg_in (List.mem_append_right _ (List.mem_append_right _ (List.mem_append_right _ (List.mem_append_left _ (List.mem_of_getElem? (i := 76) rfl))))) rfl
set_option maxRecDepth 100000 in
theorem kw_557 : Cond.code yX11_end cX11_end 2 (some .boolean) ∈ xg := xg_in (List.mem_append_right _ (List.mem_append_right _ (List.mem_append_right _ (List.mem_append_left _ (List.mem_of_getElem? (i := 77) rfl))))) rfl
set_option maxRecDepth 100000 in
theorem kw_558 : Cond.methodLink RL 29 yX11_town ∈ xg := xg_in (List.mem_append_right _ (List.mem_append_right _ (List.mem_append_right _ (List.mem_append_left _ (List.mem_of_getElem? (i := 78) rfl))))) rfl
set_option maxRecDepth 100000 in
theorem kw_559 : Cond.instanceMethod yX11_town ∈ xg := xg_in (List.mem_append_right _ (List.mem_append_right _ (List.mem_append_right _ (List.mem_append_left _ (List.mem_of_getElem? (i := 79) rfl))))) rfl
set_option maxRecDepth 100000 in
theorem kw_560 : Cond.selects RX11 yX11_town yX11_town ∈ xg := xg_in (List.mem_append_right _ (List.mem_append_right _ (List.mem_append_right _ (List.mem_append_left _ (List.mem_of_getElem? (i := 80) rfl))))) rfl
set_option maxRecDepth 100000 in
theorem kw_561 : Cond.code yX11_town cX11_town 2 (some .int) ∈ xg := xg_in (List.mem_append_right _ (List.mem_append_right _ (List.mem_append_right _ (List.mem_append_left _ (List.mem_of_getElem? (i := 81) rfl))))) rfl
set_option maxRecDepth 100000 in
theorem kw_735 : Cond.methodLink RL 34 yX11_fault ∈ xg := xg_in (List.mem_append_right _ (List.mem_append_right _ (List.mem_append_right _ (List.mem_append_right _ (List.mem_append_left _ (List.mem_of_getElem? (i := 15) rfl)))))) rfl
set_option maxRecDepth 100000 in
theorem kw_736 : Cond.instanceMethod yX11_fault ∈ xg := xg_in (List.mem_append_right _ (List.mem_append_right _ (List.mem_append_right _ (List.mem_append_right _ (List.mem_append_left _ (List.mem_of_getElem? (i := 16) rfl)))))) rfl
set_option maxRecDepth 100000 in
theorem kw_737 : Cond.selects RX11 yX11_fault yX11_fault ∈ xg := xg_in (List.mem_append_right _ (List.mem_append_right _ (List.mem_append_right _ (List.mem_append_right _ (List.mem_append_left _ (List.mem_of_getElem? (i := 17) rfl)))))) rfl
set_option maxRecDepth 100000 in
theorem kw_738 : Cond.code yX11_fault cX11_fault 1 (some .int) ∈ xg := xg_in (List.mem_append_right _ (List.mem_append_right _ (List.mem_append_right _ (List.mem_append_right _ (List.mem_append_left _ (List.mem_of_getElem? (i := 18) rfl)))))) rfl
set_option maxRecDepth 100000 in
theorem kw_739 : Cond.methodLink RL 38 yX11_name ∈ xg := xg_in (List.mem_append_right _ (List.mem_append_right _ (List.mem_append_right _ (List.mem_append_right _ (List.mem_append_left _ (List.mem_of_getElem? (i := 19) rfl)))))) rfl
set_option maxRecDepth 100000 in
theorem kw_740 : Cond.instanceMethod yX11_name ∈ xg := xg_in (List.mem_append_right _ (List.mem_append_right _ (List.mem_append_right _ (List.mem_append_right _ (List.mem_append_left _ (List.mem_of_getElem? (i := 20) rfl)))))) rfl
set_option maxRecDepth 100000 in
theorem kw_741 : Cond.selects RX11 yX11_name yX11_name ∈ xg := xg_in (List.mem_append_right _ (List.mem_append_right _ (List.mem_append_right _ (List.mem_append_right _ (List.mem_append_left _ (List.mem_of_getElem? (i := 21) rfl)))))) rfl
set_option maxRecDepth 100000 in
theorem kw_742 : Cond.code yX11_name cX11_name 3 (some .int) ∈ xg := xg_in (List.mem_append_right _ (List.mem_append_right _ (List.mem_append_right _ (List.mem_append_right _ (List.mem_append_left _ (List.mem_of_getElem? (i := 22) rfl)))))) rfl
set_option maxRecDepth 100000 in
theorem kw_760 : Cond.methodLink RL 48 yX11_worth ∈ xg := xg_in (List.mem_append_right _ (List.mem_append_right _ (List.mem_append_right _ (List.mem_append_right _ (List.mem_append_left _ (List.mem_of_getElem? (i := 40) rfl)))))) rfl
set_option maxRecDepth 100000 in
theorem kw_761 : Cond.instanceMethod yX11_worth ∈ xg := xg_in (List.mem_append_right _ (List.mem_append_right _ (List.mem_append_right _ (List.mem_append_right _ (List.mem_append_left _ (List.mem_of_getElem? (i := 41) rfl)))))) rfl
set_option maxRecDepth 100000 in
theorem kw_762 : Cond.selects RX11 yX11_worth yX11_worth ∈ xg := xg_in (List.mem_append_right _ (List.mem_append_right _ (List.mem_append_right _ (List.mem_append_right _ (List.mem_append_left _ (List.mem_of_getElem? (i := 42) rfl)))))) rfl
set_option maxRecDepth 100000 in
theorem kw_763 : Cond.code yX11_worth cX11_worth 3 (some .int) ∈ xg := xg_in (List.mem_append_right _ (List.mem_append_right _ (List.mem_append_right _ (List.mem_append_right _ (List.mem_append_left _ (List.mem_of_getElem? (i := 43) rfl)))))) rfl
set_option maxRecDepth 100000 in
theorem kw_766 : Cond.methodLink RL 52 yX11_now ∈ xg := xg_in (List.mem_append_right _ (List.mem_append_right _ (List.mem_append_right _ (List.mem_append_right _ (List.mem_append_left _ (List.mem_of_getElem? (i := 46) rfl)))))) rfl
set_option maxRecDepth 100000 in
theorem kw_767 : Cond.instanceMethod yX11_now ∈ xg := xg_in (List.mem_append_right _ (List.mem_append_right _ (List.mem_append_right _ (List.mem_append_right _ (List.mem_append_left _ (List.mem_of_getElem? (i := 47) rfl)))))) rfl
set_option maxRecDepth 100000 in
theorem kw_768 : Cond.selects RX11 yX11_now yX11_now ∈ xg := xg_in (List.mem_append_right _ (List.mem_append_right _ (List.mem_append_right _ (List.mem_append_right _ (List.mem_append_left _ (List.mem_of_getElem? (i := 48) rfl)))))) rfl
set_option maxRecDepth 100000 in
theorem kw_769 : Cond.code yX11_now cX11_now 2 (some .int) ∈ xg := xg_in (List.mem_append_right _ (List.mem_append_right _ (List.mem_append_right _ (List.mem_append_right _ (List.mem_append_left _ (List.mem_of_getElem? (i := 49) rfl)))))) rfl
set_option maxRecDepth 100000 in
theorem kw_777 : Cond.methodLink RL 57 yX11_take ∈ xg := xg_in (List.mem_append_right _ (List.mem_append_right _ (List.mem_append_right _ (List.mem_append_right _ (List.mem_append_left _ (List.mem_of_getElem? (i := 57) rfl)))))) rfl
set_option maxRecDepth 100000 in
theorem kw_778 : Cond.instanceMethod yX11_take ∈ xg := xg_in (List.mem_append_right _ (List.mem_append_right _ (List.mem_append_right _ (List.mem_append_right _ (List.mem_append_left _ (List.mem_of_getElem? (i := 58) rfl)))))) rfl
set_option maxRecDepth 100000 in
theorem kw_779 : Cond.selects RX11 yX11_take yX11_take ∈ xg := xg_in (List.mem_append_right _ (List.mem_append_right _ (List.mem_append_right _ (List.mem_append_right _ (List.mem_append_left _ (List.mem_of_getElem? (i := 59) rfl)))))) rfl
set_option maxRecDepth 100000 in
theorem kw_780 : Cond.code yX11_take cX11_take 3 (some .int) ∈ xg := xg_in (List.mem_append_right _ (List.mem_append_right _ (List.mem_append_right _ (List.mem_append_right _ (List.mem_append_left _ (List.mem_of_getElem? (i := 60) rfl)))))) rfl
set_option maxRecDepth 100000 in
theorem kw_891 : Cond.methodLink RL 61 yX11_swap ∈ xg := xg_in (List.mem_append_right _ (List.mem_append_right _ (List.mem_append_right _ (List.mem_append_right _ (List.mem_append_left _ (List.mem_of_getElem? (i := 171) rfl)))))) rfl
set_option maxRecDepth 100000 in
theorem kw_892 : Cond.instanceMethod yX11_swap ∈ xg := xg_in (List.mem_append_right _ (List.mem_append_right _ (List.mem_append_right _ (List.mem_append_right _ (List.mem_append_left _ (List.mem_of_getElem? (i := 172) rfl)))))) rfl
set_option maxRecDepth 100000 in
theorem kw_893 : Cond.selects RX11 yX11_swap yX11_swap ∈ xg := xg_in (List.mem_append_right _ (List.mem_append_right _ (List.mem_append_right _ (List.mem_append_right _ (List.mem_append_left _ (List.mem_of_getElem? (i := 173) rfl)))))) rfl
set_option maxRecDepth 100000 in
theorem kw_894 : Cond.code yX11_swap cX11_swap 3 (some .int) ∈ xg := xg_in (List.mem_append_right _ (List.mem_append_right _ (List.mem_append_right _ (List.mem_append_right _ (List.mem_append_left _ (List.mem_of_getElem? (i := 174) rfl)))))) rfl
set_option maxRecDepth 100000 in
theorem kw_899 : Cond.methodLink RL 65 yX11_sell ∈ xg := xg_in (List.mem_append_right _ (List.mem_append_right _ (List.mem_append_right _ (List.mem_append_right _ (List.mem_append_left _ (List.mem_of_getElem? (i := 179) rfl)))))) rfl
set_option maxRecDepth 100000 in
theorem kw_900 : Cond.instanceMethod yX11_sell ∈ xg := xg_in (List.mem_append_right _ (List.mem_append_right _ (List.mem_append_right _ (List.mem_append_right _ (List.mem_append_left _ (List.mem_of_getElem? (i := 180) rfl)))))) rfl
set_option maxRecDepth 100000 in
theorem kw_901 : Cond.selects RX11 yX11_sell yX11_sell ∈ xg := xg_in (List.mem_append_right _ (List.mem_append_right _ (List.mem_append_right _ (List.mem_append_right _ (List.mem_append_left _ (List.mem_of_getElem? (i := 181) rfl)))))) rfl
set_option maxRecDepth 100000 in
theorem kw_902 : Cond.code yX11_sell cX11_sell 3 (some .int) ∈ xg := xg_in (List.mem_append_right _ (List.mem_append_right _ (List.mem_append_right _ (List.mem_append_right _ (List.mem_append_left _ (List.mem_of_getElem? (i := 182) rfl)))))) rfl
set_option maxRecDepth 100000 in
theorem kw_903 : Cond.methodLink RL 69 yX11_die ∈ xg := xg_in (List.mem_append_right _ (List.mem_append_right _ (List.mem_append_right _ (List.mem_append_right _ (List.mem_append_left _ (List.mem_of_getElem? (i := 183) rfl)))))) rfl
set_option maxRecDepth 100000 in
theorem kw_904 : Cond.instanceMethod yX11_die ∈ xg := xg_in (List.mem_append_right _ (List.mem_append_right _ (List.mem_append_right _ (List.mem_append_right _ (List.mem_append_left _ (List.mem_of_getElem? (i := 184) rfl)))))) rfl
set_option maxRecDepth 100000 in
theorem kw_905 : Cond.selects RX11 yX11_die yX11_die ∈ xg := xg_in (List.mem_append_right _ (List.mem_append_right _ (List.mem_append_right _ (List.mem_append_right _ (List.mem_append_left _ (List.mem_of_getElem? (i := 185) rfl)))))) rfl
set_option maxRecDepth 100000 in
theorem kw_906 : Cond.code yX11_die cX11_die 3 (some .int) ∈ xg := xg_in (List.mem_append_right _ (List.mem_append_right _ (List.mem_append_right _ (List.mem_append_right _ (List.mem_append_left _ (List.mem_of_getElem? (i := 186) rfl)))))) rfl
set_option maxRecDepth 100000 in
theorem kw_907 : Cond.methodLink RL 73 yX11_flee ∈ xg := xg_in (List.mem_append_right _ (List.mem_append_right _ (List.mem_append_right _ (List.mem_append_right _ (List.mem_append_left _ (List.mem_of_getElem? (i := 187) rfl)))))) rfl
set_option maxRecDepth 100000 in
theorem kw_908 : Cond.instanceMethod yX11_flee ∈ xg := xg_in (List.mem_append_right _ (List.mem_append_right _ (List.mem_append_right _ (List.mem_append_right _ (List.mem_append_left _ (List.mem_of_getElem? (i := 188) rfl)))))) rfl
set_option maxRecDepth 100000 in
theorem kw_909 : Cond.selects RX11 yX11_flee yX11_flee ∈ xg := xg_in (List.mem_append_right _ (List.mem_append_right _ (List.mem_append_right _ (List.mem_append_right _ (List.mem_append_left _ (List.mem_of_getElem? (i := 189) rfl)))))) rfl
set_option maxRecDepth 100000 in
theorem kw_910 : Cond.code yX11_flee cX11_flee 2 (some .int) ∈ xg := xg_in (List.mem_append_right _ (List.mem_append_right _ (List.mem_append_right _ (List.mem_append_right _ (List.mem_append_left _ (List.mem_of_getElem? (i := 190) rfl)))))) rfl
set_option maxRecDepth 100000 in
theorem kw_911 : Cond.methodLink RL 77 yX11_pay ∈ xg := xg_in (List.mem_append_right _ (List.mem_append_right _ (List.mem_append_right _ (List.mem_append_right _ (List.mem_append_left _ (List.mem_of_getElem? (i := 191) rfl)))))) rfl
set_option maxRecDepth 100000 in
theorem kw_912 : Cond.instanceMethod yX11_pay ∈ xg := xg_in (List.mem_append_right _ (List.mem_append_right _ (List.mem_append_right _ (List.mem_append_right _ (List.mem_append_left _ (List.mem_of_getElem? (i := 192) rfl)))))) rfl
set_option maxRecDepth 100000 in
theorem kw_913 : Cond.selects RX11 yX11_pay yX11_pay ∈ xg := xg_in (List.mem_append_right _ (List.mem_append_right _ (List.mem_append_right _ (List.mem_append_right _ (List.mem_append_left _ (List.mem_of_getElem? (i := 193) rfl)))))) rfl
set_option maxRecDepth 100000 in
theorem kw_914 : Cond.code yX11_pay cX11_pay 3 (some .int) ∈ xg := xg_in (List.mem_append_right _ (List.mem_append_right _ (List.mem_append_right _ (List.mem_append_right _ (List.mem_append_left _ (List.mem_of_getElem? (i := 194) rfl)))))) rfl
set_option maxRecDepth 100000 in
theorem kw_915 : Cond.methodLink RL 81 yX11_lot ∈ xg := xg_in (List.mem_append_right _ (List.mem_append_right _ (List.mem_append_right _ (List.mem_append_right _ (List.mem_append_left _ (List.mem_of_getElem? (i := 195) rfl)))))) rfl
set_option maxRecDepth 100000 in
theorem kw_916 : Cond.instanceMethod yX11_lot ∈ xg := xg_in (List.mem_append_right _ (List.mem_append_right _ (List.mem_append_right _ (List.mem_append_right _ (List.mem_append_left _ (List.mem_of_getElem? (i := 196) rfl)))))) rfl
set_option maxRecDepth 100000 in
theorem kw_917 : Cond.selects RX11 yX11_lot yX11_lot ∈ xg := xg_in (List.mem_append_right _ (List.mem_append_right _ (List.mem_append_right _ (List.mem_append_right _ (List.mem_append_left _ (List.mem_of_getElem? (i := 197) rfl)))))) rfl
set_option maxRecDepth 100000 in
theorem kw_918 : Cond.code yX11_lot cX11_lot 3 (some .int) ∈ xg := xg_in (List.mem_append_right _ (List.mem_append_right _ (List.mem_append_right _ (List.mem_append_right _ (List.mem_append_left _ (List.mem_of_getElem? (i := 198) rfl)))))) rfl
set_option maxRecDepth 100000 in
theorem kw_928 : Cond.methodLink RL 85 yX11_mondays ∈ xg := xg_in (List.mem_append_right _ (List.mem_append_right _ (List.mem_append_right _ (List.mem_append_right _ (List.mem_append_left _ (List.mem_of_getElem? (i := 208) rfl)))))) rfl
set_option maxRecDepth 100000 in
theorem kw_929 : Cond.instanceMethod yX11_mondays ∈ xg := xg_in (List.mem_append_right _ (List.mem_append_right _ (List.mem_append_right _ (List.mem_append_right _ (List.mem_append_left _ (List.mem_of_getElem? (i := 209) rfl)))))) rfl
set_option maxRecDepth 100000 in
theorem kw_930 : Cond.selects RX11 yX11_mondays yX11_mondays ∈ xg := xg_in (List.mem_append_right _ (List.mem_append_right _ (List.mem_append_right _ (List.mem_append_right _ (List.mem_append_left _ (List.mem_of_getElem? (i := 210) rfl)))))) rfl
set_option maxRecDepth 100000 in
theorem kw_931 : Cond.code yX11_mondays cX11_mondays 3 (some .int) ∈ xg := xg_in (List.mem_append_right _ (List.mem_append_right _ (List.mem_append_right _ (List.mem_append_right _ (List.mem_append_left _ (List.mem_of_getElem? (i := 211) rfl)))))) rfl
set_option maxRecDepth 100000 in
theorem kw_933 : Cond.methodLink RL 89 yX11_undo ∈ xg := xg_in (List.mem_append_right _ (List.mem_append_right _ (List.mem_append_right _ (List.mem_append_right _ (List.mem_append_left _ (List.mem_of_getElem? (i := 213) rfl)))))) rfl
set_option maxRecDepth 100000 in
theorem kw_934 : Cond.instanceMethod yX11_undo ∈ xg := xg_in (List.mem_append_right _ (List.mem_append_right _ (List.mem_append_right _ (List.mem_append_right _ (List.mem_append_left _ (List.mem_of_getElem? (i := 214) rfl)))))) rfl
set_option maxRecDepth 100000 in
theorem kw_935 : Cond.selects RX11 yX11_undo yX11_undo ∈ xg := xg_in (List.mem_append_right _ (List.mem_append_right _ (List.mem_append_right _ (List.mem_append_right _ (List.mem_append_left _ (List.mem_of_getElem? (i := 215) rfl)))))) rfl
set_option maxRecDepth 100000 in
theorem kw_936 : Cond.code yX11_undo cX11_undo 1 (some .int) ∈ xg := xg_in (List.mem_append_right _ (List.mem_append_right _ (List.mem_append_right _ (List.mem_append_right _ (List.mem_append_left _ (List.mem_of_getElem? (i := 216) rfl)))))) rfl
set_option maxRecDepth 100000 in
theorem kw_941 : Cond.methodLink RL 93 yX11_called ∈ xg := xg_in (List.mem_append_right _ (List.mem_append_right _ (List.mem_append_right _ (List.mem_append_right _ (List.mem_append_left _ (List.mem_of_getElem? (i := 221) rfl)))))) rfl
set_option maxRecDepth 100000 in
theorem kw_942 : Cond.instanceMethod yX11_called ∈ xg := xg_in (List.mem_append_right _ (List.mem_append_right _ (List.mem_append_right _ (List.mem_append_right _ (List.mem_append_left _ (List.mem_of_getElem? (i := 222) rfl)))))) rfl
set_option maxRecDepth 100000 in
theorem kw_943 : Cond.selects RX11 yX11_called yX11_called ∈ xg := xg_in (List.mem_append_right _ (List.mem_append_right _ (List.mem_append_right _ (List.mem_append_right _ (List.mem_append_left _ (List.mem_of_getElem? (i := 223) rfl)))))) rfl
set_option maxRecDepth 100000 in
theorem kw_944 : Cond.code yX11_called cX11_called 3 (some .int) ∈ xg := xg_in (List.mem_append_right _ (List.mem_append_right _ (List.mem_append_right _ (List.mem_append_right _ (List.mem_append_left _ (List.mem_of_getElem? (i := 224) rfl)))))) rfl
set_option maxRecDepth 100000 in
theorem kw_955 : Cond.methodLink RL 97 yX11_holder ∈ xg := xg_in (List.mem_append_right _ (List.mem_append_right _ (List.mem_append_right _ (List.mem_append_right _ (List.mem_append_left _ (List.mem_of_getElem? (i := 235) rfl)))))) rfl
set_option maxRecDepth 100000 in
theorem kw_956 : Cond.instanceMethod yX11_holder ∈ xg := xg_in (List.mem_append_right _ (List.mem_append_right _ (List.mem_append_right _ (List.mem_append_right _ (List.mem_append_left _ (List.mem_of_getElem? (i := 236) rfl)))))) rfl
set_option maxRecDepth 100000 in
theorem kw_957 : Cond.selects RX11 yX11_holder yX11_holder ∈ xg := xg_in (List.mem_append_right _ (List.mem_append_right _ (List.mem_append_right _ (List.mem_append_right _ (List.mem_append_left _ (List.mem_of_getElem? (i := 237) rfl)))))) rfl
set_option maxRecDepth 100000 in
theorem kw_958 : Cond.code yX11_holder cX11_holder 3 (some .int) ∈ xg := xg_in (List.mem_append_right _ (List.mem_append_right _ (List.mem_append_right _ (List.mem_append_right _ (List.mem_append_left _ (List.mem_of_getElem? (i := 238) rfl)))))) rfl
set_option maxRecDepth 100000 in
theorem kw_964 : Cond.methodLink RL 101 yX11_bearers ∈ xg := xg_in (List.mem_append_right _ (List.mem_append_right _ (List.mem_append_right _ (List.mem_append_right _ (List.mem_append_right _ (List.mem_append_left _ (List.mem_of_getElem? (i := 4) rfl))))))) rfl
set_option maxRecDepth 100000 in
theorem kw_965 : Cond.instanceMethod yX11_bearers ∈ xg := xg_in (List.mem_append_right _ (List.mem_append_right _ (List.mem_append_right _ (List.mem_append_right _ (List.mem_append_right _ (List.mem_append_left _ (List.mem_of_getElem? (i := 5) rfl))))))) rfl
set_option maxRecDepth 100000 in
theorem kw_966 : Cond.selects RX11 yX11_bearers yX11_bearers ∈ xg := xg_in (List.mem_append_right _ (List.mem_append_right _ (List.mem_append_right _ (List.mem_append_right _ (List.mem_append_right _ (List.mem_append_left _ (List.mem_of_getElem? (i := 6) rfl))))))) rfl
set_option maxRecDepth 100000 in
theorem kw_967 : Cond.code yX11_bearers cX11_bearers 4 (some .int) ∈ xg := xg_in (List.mem_append_right _ (List.mem_append_right _ (List.mem_append_right _ (List.mem_append_right _ (List.mem_append_right _ (List.mem_append_left _ (List.mem_of_getElem? (i := 7) rfl))))))) rfl
set_option maxRecDepth 100000 in
theorem kw_972 : Cond.methodLink RL 105 yX11_howLong ∈ xg := xg_in (List.mem_append_right _ (List.mem_append_right _ (List.mem_append_right _ (List.mem_append_right _ (List.mem_append_right _ (List.mem_append_left _ (List.mem_of_getElem? (i := 12) rfl))))))) rfl
set_option maxRecDepth 100000 in
theorem kw_973 : Cond.instanceMethod yX11_howLong ∈ xg := xg_in (List.mem_append_right _ (List.mem_append_right _ (List.mem_append_right _ (List.mem_append_right _ (List.mem_append_right _ (List.mem_append_left _ (List.mem_of_getElem? (i := 13) rfl))))))) rfl
set_option maxRecDepth 100000 in
theorem kw_974 : Cond.selects RX11 yX11_howLong yX11_howLong ∈ xg := xg_in (List.mem_append_right _ (List.mem_append_right _ (List.mem_append_right _ (List.mem_append_right _ (List.mem_append_right _ (List.mem_append_left _ (List.mem_of_getElem? (i := 14) rfl))))))) rfl
set_option maxRecDepth 100000 in
theorem kw_975 : Cond.code yX11_howLong cX11_howLong 3 (some .int) ∈ xg := xg_in (List.mem_append_right _ (List.mem_append_right _ (List.mem_append_right _ (List.mem_append_right _ (List.mem_append_right _ (List.mem_append_left _ (List.mem_of_getElem? (i := 15) rfl))))))) rfl
set_option maxRecDepth 100000 in
theorem kw_976 : Cond.methodLink RL 109 yX11_wishes ∈ xg := xg_in (List.mem_append_right _ (List.mem_append_right _ (List.mem_append_right _ (List.mem_append_right _ (List.mem_append_right _ (List.mem_append_left _ (List.mem_of_getElem? (i := 16) rfl))))))) rfl
set_option maxRecDepth 100000 in
theorem kw_977 : Cond.instanceMethod yX11_wishes ∈ xg := xg_in (List.mem_append_right _ (List.mem_append_right _ (List.mem_append_right _ (List.mem_append_right _ (List.mem_append_right _ (List.mem_append_left _ (List.mem_of_getElem? (i := 17) rfl))))))) rfl
set_option maxRecDepth 100000 in
theorem kw_978 : Cond.selects RX11 yX11_wishes yX11_wishes ∈ xg := xg_in (List.mem_append_right _ (List.mem_append_right _ (List.mem_append_right _ (List.mem_append_right _ (List.mem_append_right _ (List.mem_append_left _ (List.mem_of_getElem? (i := 18) rfl))))))) rfl
set_option maxRecDepth 100000 in
theorem kw_979 : Cond.code yX11_wishes cX11_wishes 1 (some .int) ∈ xg := xg_in (List.mem_append_right _ (List.mem_append_right _ (List.mem_append_right _ (List.mem_append_right _ (List.mem_append_right _ (List.mem_append_left _ (List.mem_of_getElem? (i := 19) rfl))))))) rfl
theorem dfX0 : ∀ j, j < 1 → defaultValue (tyX0 j) = vp_V [.int 0] j := by decide +kernel
theorem dfX1 : ∀ j, j < 4 → defaultValue (tyX1 j) = vp_V [.null, .null, .null, .int 0] j := by decide +kernel
theorem dfX2 : ∀ j, j < 15 → defaultValue (tyX2 j) = vp_V [.null, .int 0, .int 0, .int 0, .int 0, .int 0, .int 0, .null, .null, .null, .null, .null, .null, .null, .null] j := by decide +kernel
theorem dfX3 : ∀ j, j < 5 → defaultValue (tyX3 j) = vp_V [.null, .null, .int 0, .int 0, .int 0] j := by decide +kernel
theorem dfX4 : ∀ j, j < 11 → defaultValue (tyX4 j) = vp_V [.null, .null, .null, .null, .null, .int 0, .int 0, .int 0, .int 0, .int 0, .int 0] j := by decide +kernel
theorem dfX5 : ∀ j, j < 8 → defaultValue (tyX5 j) = vp_V [.null, .null, .null, .null, .null, .null, .int 0, .int 0] j := by decide +kernel
theorem dfX6 : ∀ j, j < 14 → defaultValue (tyX6 j) = vp_V [.null, .null, .int 0, .int 0, .int 0, .int 0, .int 0, .int 0, .long 0, .int 0, .int 0, .int 0, .int 0, .int 0] j := by decide +kernel
theorem dfX7 : ∀ j, j < 12 → defaultValue (tyX7 j) = vp_V [.int 0, .int 0, .null, .null, .null, .null, .null, .null, .null, .null, .null, .null] j := by decide +kernel
theorem dfX8 : ∀ j, j < 3 → defaultValue (tyX8 j) = vp_V [.null, .null, .int 0] j := by decide +kernel
theorem dfX9 : ∀ j, j < 3 → defaultValue (tyX9 j) = vp_V [.null, .int 0, .int 0] j := by decide +kernel
theorem dfX10 : ∀ j, j < 5 → defaultValue (tyX10 j) = vp_V [.null, .null, .null, .null, .int 0] j := by decide +kernel
theorem dfX11 : ∀ j, j < 15 → defaultValue (tyX11 j) = vp_V [.null, .null, .null, .null, .null, .null, .null, .null, .null, .null, .null, .null, .null, .null, .int 0] j := by decide +kernel
theorem dfX12 : ∀ j, j < 44 → defaultValue (tyX12 j) = vp_V [.int 0, .null, .int 0, .int 0, .int 0, .int 0, .null, .null, .null, .null, .null, .int 0, .int 0, .int 0, .int 0, .int 0, .int 0, .long 0, .int 0, .int 0, .int 0, .null, .null, .int 0, .null, .int 0, .int 0, .int 0, .int 0, .int 0, .int 0, .int 0, .null, .int 0, .null, .int 0, .int 0, .int 0, .int 0, .int 0, .null, .null, .null, .null] j := by decide +kernel
/-! what a case of the law leaves alone -/
theorem xfr {AD : List Nat} {n : Nat} {wc : va_W} {H0 H H1 : Heap} (is : List Nat) (h1 : wc.map Prod.fst = is.map (fun i => AD.getD i 0)) (hn0 : AD.length = n) (h2 : ∀ i ∈ is, i < n) (hz : H0.size ≤ H.size) (hF : ∀ q : Nat, q < H0.size → q ∉ AD → H[q]? = H0[q]?) (hz1 : H.size ≤ H1.size) (hk : ∀ q : Nat, q < H.size → ¬ va_A wc H.size q → H1[q]? = H[q]?) : H0.size ≤ H1.size ∧ ∀ q : Nat, q < H0.size → q ∉ AD → H1[q]? = H0[q]? := by
  refine ⟨Nat.le_trans hz hz1, fun q hq hn => ?_⟩
  rw [← hF q hq hn]
  refine hk q (by omega) (fun h => ?_)
  rcases h with ⟨k, e, h⟩ | h
  · have h3 : q ∈ wc.map Prod.fst := List.mem_map.mpr ⟨(q, e), List.mem_of_getElem? h, rfl⟩
    rw [h1] at h3
    obtain ⟨i, hi, ei⟩ := List.mem_map.mp h3
    have h4 : i < AD.length := by rw [hn0]; exact h2 i hi
    apply hn
    rw [← ei]
    show (AD[i]?).getD 0 ∈ AD
    rw [List.getElem?_eq_getElem h4]
    exact List.getElem_mem h4
  · omega
