set_option maxRecDepth 100000 in
theorem ks_114 : Cond.selects RX12 yX12_four yX12_four ∈ xg := xg_in (List.mem_append_left _ (List.mem_of_getElem? (i := 114) rfl)) rfl
set_option maxRecDepth 100000 in
theorem ks_115 : Cond.selects RX12 yX12_taken yX12_taken ∈ xg := xg_in (List.mem_append_left _ (List.mem_of_getElem? (i := 115) rfl)) rfl
set_option maxRecDepth 100000 in
theorem ks_116 : Cond.selects RX12 yX12_next yX12_next ∈ xg := xg_in (List.mem_append_left _ (List.mem_of_getElem? (i := 116) rfl)) rfl
set_option maxRecDepth 100000 in
theorem ks_117 : Cond.selects RX12 yX12_peek yX12_peek ∈ xg := xg_in (List.mem_append_left _ (List.mem_of_getElem? (i := 117) rfl)) rfl
set_option maxRecDepth 100000 in
theorem ks_118 : Cond.selects RX12 yX12_line yX12_line ∈ xg := xg_in (List.mem_append_left _ (List.mem_of_getElem? (i := 118) rfl)) rfl
set_option maxRecDepth 100000 in
theorem ks_119 : Cond.selects RX12 yX12_isWord yX12_isWord ∈ xg := xg_in (List.mem_append_left _ (List.mem_of_getElem? (i := 119) rfl)) rfl
set_option maxRecDepth 100000 in
theorem ks_120 : Cond.selects RX12 yX12_bad yX12_bad ∈ xg := xg_in (List.mem_append_left _ (List.mem_of_getElem? (i := 120) rfl)) rfl
set_option maxRecDepth 100000 in
theorem ks_121 : Cond.selects RX12 yX12_fresh yX12_fresh ∈ xg := xg_in (List.mem_append_left _ (List.mem_of_getElem? (i := 121) rfl)) rfl
set_option maxRecDepth 100000 in
theorem ks_122 : Cond.selects RX12 yX12_isName yX12_isName ∈ xg := xg_in (List.mem_append_left _ (List.mem_of_getElem? (i := 122) rfl)) rfl
set_option maxRecDepth 100000 in
theorem ks_123 : Cond.selects RX12 yX12_find yX12_find ∈ xg := xg_in (List.mem_append_left _ (List.mem_of_getElem? (i := 123) rfl)) rfl
set_option maxRecDepth 100000 in
theorem ks_124 : Cond.selects RX12 yX12_puts yX12_puts ∈ xg := xg_in (List.mem_append_left _ (List.mem_of_getElem? (i := 124) rfl)) rfl
set_option maxRecDepth 100000 in
theorem ks_125 : Cond.selects RX12 yX12_takes yX12_takes ∈ xg := xg_in (List.mem_append_left _ (List.mem_of_getElem? (i := 125) rfl)) rfl
set_option maxRecDepth 100000 in
theorem ks_126 : Cond.selects RX12 yX12_readSoul yX12_readSoul ∈ xg := xg_in (List.mem_append_left _ (List.mem_of_getElem? (i := 126) rfl)) rfl
set_option maxRecDepth 100000 in
theorem ks_127 : Cond.selects RX12 yX12_looksAt yX12_looksAt ∈ xg := xg_in (List.mem_append_left _ (List.mem_of_getElem? (i := 127) rfl)) rfl
set_option maxRecDepth 100000 in
theorem ks_128 : Cond.selects RX12 yX12_sign yX12_sign ∈ xg := xg_in (List.mem_append_left _ (List.mem_of_getElem? (i := 128) rfl)) rfl
set_option maxRecDepth 100000 in
theorem ks_129 : Cond.selects RX12 yX12_isSign yX12_isSign ∈ xg := xg_in (List.mem_append_left _ (List.mem_of_getElem? (i := 129) rfl)) rfl
set_option maxRecDepth 100000 in
theorem ks_130 : Cond.selects RX12 yX12_waits yX12_waits ∈ xg := xg_in (List.mem_append_left _ (List.mem_of_getElem? (i := 130) rfl)) rfl
set_option maxRecDepth 100000 in
theorem ks_131 : Cond.selects RX12 yX12_isNameOf yX12_isNameOf ∈ xg := xg_in (List.mem_append_left _ (List.mem_of_getElem? (i := 131) rfl)) rfl
set_option maxRecDepth 100000 in
theorem ks_132 : Cond.selects RX12 yX12_costOf yX12_costOf ∈ xg := xg_in (List.mem_append_left _ (List.mem_of_getElem? (i := 132) rfl)) rfl
set_option maxRecDepth 100000 in
theorem ks_133 : Cond.selects RX12 yX12_hangedFor yX12_hangedFor ∈ xg := xg_in (List.mem_append_left _ (List.mem_of_getElem? (i := 133) rfl)) rfl
set_option maxRecDepth 100000 in
theorem ks_134 : Cond.selects RX12 yX12_holderOf yX12_holderOf ∈ xg := xg_in (List.mem_append_left _ (List.mem_of_getElem? (i := 134) rfl)) rfl
set_option maxRecDepth 100000 in
theorem ks_135 : Cond.selects RX12 yX12_isSoul yX12_isSoul ∈ xg := xg_in (List.mem_append_left _ (List.mem_of_getElem? (i := 135) rfl)) rfl
set_option maxRecDepth 100000 in
theorem ks_136 : Cond.selects RX12 yX12_throwsIf yX12_throwsIf ∈ xg := xg_in (List.mem_append_left _ (List.mem_of_getElem? (i := 136) rfl)) rfl
set_option maxRecDepth 100000 in
theorem ks_137 : Cond.selects RX12 yX12_isDead yX12_isDead ∈ xg := xg_in (List.mem_append_left _ (List.mem_of_getElem? (i := 137) rfl)) rfl
set_option maxRecDepth 100000 in
theorem ks_138 : Cond.selects RX12 yX12_placeOf yX12_placeOf ∈ xg := xg_in (List.mem_append_left _ (List.mem_of_getElem? (i := 138) rfl)) rfl
set_option maxRecDepth 100000 in
theorem ks_139 : Cond.selects RX12 yX12_freeNames yX12_freeNames ∈ xg := xg_in (List.mem_append_left _ (List.mem_of_getElem? (i := 139) rfl)) rfl
set_option maxRecDepth 100000 in
theorem ks_140 : Cond.selects RX12 yX12_sum yX12_sum ∈ xg := xg_in (List.mem_append_left _ (List.mem_of_getElem? (i := 140) rfl)) rfl
set_option maxRecDepth 100000 in
theorem ks_141 : Cond.selects RX12 yX12_whyTake yX12_whyTake ∈ xg := xg_in (List.mem_append_left _ (List.mem_of_getElem? (i := 141) rfl)) rfl
set_option maxRecDepth 100000 in
theorem ks_142 : Cond.selects RX12 yX12_keep yX12_keep ∈ xg := xg_in (List.mem_append_left _ (List.mem_of_getElem? (i := 142) rfl)) rfl
set_option maxRecDepth 100000 in
theorem ks_143 : Cond.selects RX12 yX12_takesName yX12_takesName ∈ xg := xg_in (List.mem_append_left _ (List.mem_of_getElem? (i := 143) rfl)) rfl
set_option maxRecDepth 100000 in
theorem ks_144 : Cond.selects RX12 yX12_leaves yX12_leaves ∈ xg := xg_in (List.mem_append_left _ (List.mem_of_getElem? (i := 144) rfl)) rfl
set_option maxRecDepth 100000 in
theorem ks_145 : Cond.selects RX12 yX12_changes yX12_changes ∈ xg := xg_in (List.mem_append_left _ (List.mem_of_getElem? (i := 145) rfl)) rfl
set_option maxRecDepth 100000 in
theorem ks_146 : Cond.selects RX12 yX12_areTwo yX12_areTwo ∈ xg := xg_in (List.mem_append_left _ (List.mem_of_getElem? (i := 146) rfl)) rfl
set_option maxRecDepth 100000 in
theorem ks_147 : Cond.selects RX12 yX12_whySwap yX12_whySwap ∈ xg := xg_in (List.mem_append_left _ (List.mem_of_getElem? (i := 147) rfl)) rfl
set_option maxRecDepth 100000 in
theorem ks_148 : Cond.selects RX12 yX12_hasChanged yX12_hasChanged ∈ xg := xg_in (List.mem_append_left _ (List.mem_of_getElem? (i := 148) rfl)) rfl
set_option maxRecDepth 100000 in
theorem ks_149 : Cond.selects RX12 yX12_swapsNames yX12_swapsNames ∈ xg := xg_in (List.mem_append_left _ (List.mem_of_getElem? (i := 149) rfl)) rfl
set_option maxRecDepth 100000 in
theorem ks_150 : Cond.selects RX12 yX12_whySell yX12_whySell ∈ xg := xg_in (List.mem_append_left _ (List.mem_of_getElem? (i := 150) rfl)) rfl
set_option maxRecDepth 100000 in
theorem ks_151 : Cond.selects RX12 yX12_sellsName yX12_sellsName ∈ xg := xg_in (List.mem_append_left _ (List.mem_of_getElem? (i := 151) rfl)) rfl
set_option maxRecDepth 100000 in
theorem ks_152 : Cond.selects RX12 yX12_dies yX12_dies ∈ xg := xg_in (List.mem_append_left _ (List.mem_of_getElem? (i := 152) rfl)) rfl
set_option maxRecDepth 100000 in
theorem ks_153 : Cond.selects RX12 yX12_whyFlee yX12_whyFlee ∈ xg := xg_in (List.mem_append_left _ (List.mem_of_getElem? (i := 153) rfl)) rfl
set_option maxRecDepth 100000 in
theorem ks_154 : Cond.selects RX12 yX12_flees yX12_flees ∈ xg := xg_in (List.mem_append_left _ (List.mem_of_getElem? (i := 154) rfl)) rfl
set_option maxRecDepth 100000 in
theorem ks_155 : Cond.selects RX12 yX12_whyPay yX12_whyPay ∈ xg := xg_in (List.mem_append_left _ (List.mem_of_getElem? (i := 155) rfl)) rfl
set_option maxRecDepth 100000 in
theorem ks_156 : Cond.selects RX12 yX12_paysOff yX12_paysOff ∈ xg := xg_in (List.mem_append_left _ (List.mem_of_getElem? (i := 156) rfl)) rfl
set_option maxRecDepth 100000 in
theorem ks_157 : Cond.selects RX12 yX12_draw yX12_draw ∈ xg := xg_in (List.mem_append_left _ (List.mem_of_getElem? (i := 157) rfl)) rfl
set_option maxRecDepth 100000 in
theorem ks_158 : Cond.selects RX12 yX12_goes yX12_goes ∈ xg := xg_in (List.mem_append_left _ (List.mem_of_getElem? (i := 158) rfl)) rfl
set_option maxRecDepth 100000 in
theorem ks_159 : Cond.selects RX12 yX12_monday yX12_monday ∈ xg := xg_in (List.mem_append_left _ (List.mem_of_getElem? (i := 159) rfl)) rfl
set_option maxRecDepth 100000 in
theorem ks_160 : Cond.selects RX12 yX12_isPast yX12_isPast ∈ xg := xg_in (List.mem_append_left _ (List.mem_of_getElem? (i := 160) rfl)) rfl
set_option maxRecDepth 100000 in
theorem ks_161 : Cond.selects RX12 yX12_keptOf yX12_keptOf ∈ xg := xg_in (List.mem_append_left _ (List.mem_of_getElem? (i := 161) rfl)) rfl
set_option maxRecDepth 100000 in
theorem ks_162 : Cond.selects RX12 yX12_endsOf yX12_endsOf ∈ xg := xg_in (List.mem_append_left _ (List.mem_of_getElem? (i := 162) rfl)) rfl
set_option maxRecDepth 100000 in
theorem ks_163 : Cond.selects RX12 yX12_canBe yX12_canBe ∈ xg := xg_in (List.mem_append_left _ (List.mem_of_getElem? (i := 163) rfl)) rfl
set_option maxRecDepth 100000 in
theorem ks_164 : Cond.selects RX12 yX12_doesWish yX12_doesWish ∈ xg := xg_in (List.mem_append_left _ (List.mem_of_getElem? (i := 164) rfl)) rfl
set_option maxRecDepth 100000 in
theorem ks_165 : Cond.selects RX12 yX12_wished yX12_wished ∈ xg := xg_in (List.mem_append_left _ (List.mem_of_getElem? (i := 165) rfl)) rfl
set_option maxRecDepth 100000 in
theorem ks_166 : Cond.selects RX12 yX12_isMet yX12_isMet ∈ xg := xg_in (List.mem_append_left _ (List.mem_of_getElem? (i := 166) rfl)) rfl
set_option maxRecDepth 100000 in
theorem ks_167 : Cond.selects RX12 yX12_bids yX12_bids ∈ xg := xg_in (List.mem_append_left _ (List.mem_of_getElem? (i := 167) rfl)) rfl
set_option maxRecDepth 100000 in
theorem ks_168 : Cond.selects RX12 yX12_octet yX12_octet ∈ xg := xg_in (List.mem_append_left _ (List.mem_of_getElem? (i := 168) rfl)) rfl
set_option maxRecDepth 100000 in
theorem ks_169 : Cond.selects RX12 yX12_hasEnough yX12_hasEnough ∈ xg := xg_in (List.mem_append_left _ (List.mem_of_getElem? (i := 169) rfl)) rfl
set_option maxRecDepth 100000 in
theorem ks_170 : Cond.selects RX12 yX12_waitSet yX12_waitSet ∈ xg := xg_in (List.mem_append_left _ (List.mem_of_getElem? (i := 170) rfl)) rfl
set_option maxRecDepth 100000 in
theorem ks_171 : Cond.selects RX12 yX12_calledSet yX12_calledSet ∈ xg := xg_in (List.mem_append_left _ (List.mem_of_getElem? (i := 171) rfl)) rfl
set_option maxRecDepth 100000 in
theorem ks_172 : Cond.selects RX12 yX12_coinFor yX12_coinFor ∈ xg := xg_in (List.mem_append_left _ (List.mem_of_getElem? (i := 172) rfl)) rfl
set_option maxRecDepth 100000 in
theorem ks_173 : Cond.selects RX12 yX12_goesBy yX12_goesBy ∈ xg := xg_in (List.mem_append_left _ (List.mem_of_getElem? (i := 173) rfl)) rfl
set_option maxRecDepth 100000 in
theorem ks_174 : Cond.selects RX12 yX12_draws yX12_draws ∈ xg := xg_in (List.mem_append_left _ (List.mem_of_getElem? (i := 174) rfl)) rfl
set_option maxRecDepth 100000 in
theorem ks_175 : Cond.selects RX12 yX12_tries yX12_tries ∈ xg := xg_in (List.mem_append_left _ (List.mem_of_getElem? (i := 175) rfl)) rfl
set_option maxRecDepth 100000 in
theorem ks_176 : Cond.selects RX12 yX12_back yX12_back ∈ xg := xg_in (List.mem_append_left _ (List.mem_of_getElem? (i := 176) rfl)) rfl
set_option maxRecDepth 100000 in
theorem ks_177 : Cond.selects RX12 yX12_rollLine yX12_rollLine ∈ xg := xg_in (List.mem_append_left _ (List.mem_of_getElem? (i := 177) rfl)) rfl
set_option maxRecDepth 100000 in
theorem ks_178 : Cond.selects RX12 yX12_whyLine yX12_whyLine ∈ xg := xg_in (List.mem_append_left _ (List.mem_of_getElem? (i := 178) rfl)) rfl
set_option maxRecDepth 100000 in
theorem ks_179 : Cond.selects RX12 yX12_livesLine yX12_livesLine ∈ xg := xg_in (List.mem_append_left _ (List.mem_of_getElem? (i := 179) rfl)) rfl
set_option maxRecDepth 100000 in
theorem ks_180 : Cond.selects RX12 yX12_nots yX12_nots ∈ xg := xg_in (List.mem_append_left _ (List.mem_of_getElem? (i := 180) rfl)) rfl
set_option maxRecDepth 100000 in
theorem ks_181 : Cond.selects RX12 yX12_code yX12_code ∈ xg := xg_in (List.mem_append_left _ (List.mem_of_getElem? (i := 181) rfl)) rfl
set_option maxRecDepth 100000 in
theorem ks_182 : Cond.selects RX12 yX12_joins yX12_joins ∈ xg := xg_in (List.mem_append_left _ (List.mem_of_getElem? (i := 182) rfl)) rfl
set_option maxRecDepth 100000 in
theorem ks_183 : Cond.selects RX12 yX12_behind yX12_behind ∈ xg := xg_in (List.mem_append_left _ (List.mem_of_getElem? (i := 183) rfl)) rfl
set_option maxRecDepth 100000 in
theorem ks_184 : Cond.selects RX12 yX12_operand yX12_operand ∈ xg := xg_in (List.mem_append_left _ (List.mem_of_getElem? (i := 184) rfl)) rfl
set_option maxRecDepth 100000 in
theorem ks_185 : Cond.selects RX12 yX12_leafOf yX12_leafOf ∈ xg := xg_in (List.mem_append_left _ (List.mem_of_getElem? (i := 185) rfl)) rfl
set_option maxRecDepth 100000 in
theorem ks_186 : Cond.selects RX12 yX12_isSaid yX12_isSaid ∈ xg := xg_in (List.mem_append_left _ (List.mem_of_getElem? (i := 186) rfl)) rfl
set_option maxRecDepth 100000 in
theorem ks_187 : Cond.selects RX12 yX12_isLeaf yX12_isLeaf ∈ xg := xg_in (List.mem_append_left _ (List.mem_of_getElem? (i := 187) rfl)) rfl
set_option maxRecDepth 100000 in
theorem kw_1362 : Cond.methodLink RX12 10 yX12_four ∈ xg := xg_in (List.mem_append_right _ (List.mem_append_right _ (List.mem_append_right _ (List.mem_append_right _ (List.mem_append_right _ (List.mem_append_right _ (List.mem_append_left _ (List.mem_of_getElem? (i := 162) rfl)))))))) rfl
set_option maxRecDepth 100000 in
theorem kw_1364 : Cond.instanceMethod yX12_four ∈ xg := xg_in (List.mem_append_right _ (List.mem_append_right _ (List.mem_append_right _ (List.mem_append_right _ (List.mem_append_right _ (List.mem_append_right _ (List.mem_append_left _ (List.mem_of_getElem? (i := 164) rfl)))))))) rfl
set_option maxRecDepth 100000 in
theorem kw_1366 : Cond.code yX12_four cX12_four 3 none ∈ xg := xg_in (List.mem_append_right _ (List.mem_append_right _ (List.mem_append_right _ (List.mem_append_right _ (List.mem_append_right _ (List.mem_append_right _ (List.mem_append_left _ (List.mem_of_getElem? (i := 166) rfl)))))))) rfl
set_option maxRecDepth 100000 in
theorem kw_1376 : Cond.constantLong RX12 81 (1851878757) ∈ xg := xg_in (List.mem_append_right _ (List.mem_append_right _ (List.mem_append_right _ (List.mem_append_right _ (List.mem_append_right _ (List.mem_append_right _ (List.mem_append_left _ (List.mem_of_getElem? (i := 176) rfl)))))))) rfl
set_option maxRecDepth 100000 in
theorem kw_1377 : Cond.constantLong RX12 83 (1684365940) ∈ xg := xg_in (List.mem_append_right _ (List.mem_append_right _ (List.mem_append_right _ (List.mem_append_right _ (List.mem_append_right _ (List.mem_append_right _ (List.mem_append_left _ (List.mem_of_getElem? (i := 177) rfl)))))))) rfl
set_option maxRecDepth 100000 in
theorem kw_1378 : Cond.constantLong RX12 85 (439787549556) ∈ xg := xg_in (List.mem_append_right _ (List.mem_append_right _ (List.mem_append_right _ (List.mem_append_right _ (List.mem_append_right _ (List.mem_append_right _ (List.mem_append_left _ (List.mem_of_getElem? (i := 178) rfl)))))))) rfl
set_option maxRecDepth 100000 in
theorem kw_1379 : Cond.constantLong RX12 87 (1936684396) ∈ xg := xg_in (List.mem_append_right _ (List.mem_append_right _ (List.mem_append_right _ (List.mem_append_right _ (List.mem_append_right _ (List.mem_append_right _ (List.mem_append_left _ (List.mem_of_getElem? (i := 179) rfl)))))))) rfl
set_option maxRecDepth 100000 in
theorem kw_1380 : Cond.constantLong RX12 89 (109270082020708) ∈ xg := xg_in (List.mem_append_right _ (List.mem_append_right _ (List.mem_append_right _ (List.mem_append_right _ (List.mem_append_right _ (List.mem_append_right _ (List.mem_append_left _ (List.mem_of_getElem? (i := 180) rfl)))))))) rfl
set_option maxRecDepth 100000 in
theorem kw_1381 : Cond.constantLong RX12 91 (2003399528) ∈ xg := xg_in (List.mem_append_right _ (List.mem_append_right _ (List.mem_append_right _ (List.mem_append_right _ (List.mem_append_right _ (List.mem_append_right _ (List.mem_append_left _ (List.mem_of_getElem? (i := 181) rfl)))))))) rfl
set_option maxRecDepth 100000 in
theorem kw_1382 : Cond.constantLong RX12 93 (512970880104) ∈ xg := xg_in (List.mem_append_right _ (List.mem_append_right _ (List.mem_append_right _ (List.mem_append_right _ (List.mem_append_right _ (List.mem_append_right _ (List.mem_append_left _ (List.mem_of_getElem? (i := 182) rfl)))))))) rfl
set_option maxRecDepth 100000 in
theorem kw_1383 : Cond.constantLong RX12 95 (7302244) ∈ xg := xg_in (List.mem_append_right _ (List.mem_append_right _ (List.mem_append_right _ (List.mem_append_right _ (List.mem_append_right _ (List.mem_append_right _ (List.mem_append_left _ (List.mem_of_getElem? (i := 183) rfl)))))))) rfl
set_option maxRecDepth 100000 in
theorem kw_1384 : Cond.constantLong RX12 97 (499850634611) ∈ xg := xg_in (List.mem_append_right _ (List.mem_append_right _ (List.mem_append_right _ (List.mem_append_right _ (List.mem_append_right _ (List.mem_append_right _ (List.mem_append_left _ (List.mem_of_getElem? (i := 184) rfl)))))))) rfl
set_option maxRecDepth 100000 in
theorem kw_1385 : Cond.constantLong RX12 99 (495924113523) ∈ xg := xg_in (List.mem_append_right _ (List.mem_append_right _ (List.mem_append_right _ (List.mem_append_right _ (List.mem_append_right _ (List.mem_append_right _ (List.mem_append_left _ (List.mem_of_getElem? (i := 185) rfl)))))))) rfl
set_option maxRecDepth 100000 in
theorem kw_1386 : Cond.constantLong RX12 101 (495622843507) ∈ xg := xg_in (List.mem_append_right _ (List.mem_append_right _ (List.mem_append_right _ (List.mem_append_right _ (List.mem_append_right _ (List.mem_append_right _ (List.mem_append_left _ (List.mem_of_getElem? (i := 186) rfl)))))))) rfl
set_option maxRecDepth 100000 in
theorem kw_1387 : Cond.constantLong RX12 103 (1684628851) ∈ xg := xg_in (List.mem_append_right _ (List.mem_append_right _ (List.mem_append_right _ (List.mem_append_right _ (List.mem_append_right _ (List.mem_append_right _ (List.mem_append_left _ (List.mem_of_getElem? (i := 187) rfl)))))))) rfl
set_option maxRecDepth 100000 in
theorem kw_1388 : Cond.constantLong RX12 105 (448311224179) ∈ xg := xg_in (List.mem_append_right _ (List.mem_append_right _ (List.mem_append_right _ (List.mem_append_right _ (List.mem_append_right _ (List.mem_append_right _ (List.mem_append_left _ (List.mem_of_getElem? (i := 188) rfl)))))))) rfl
set_option maxRecDepth 100000 in
theorem kw_1389 : Cond.constantLong RX12 107 (439905248627) ∈ xg := xg_in (List.mem_append_right _ (List.mem_append_right _ (List.mem_append_right _ (List.mem_append_right _ (List.mem_append_right _ (List.mem_append_right _ (List.mem_append_left _ (List.mem_of_getElem? (i := 189) rfl)))))))) rfl
set_option maxRecDepth 100000 in
theorem kw_1390 : Cond.constantLong RX12 109 (1885436275) ∈ xg := xg_in (List.mem_append_right _ (List.mem_append_right _ (List.mem_append_right _ (List.mem_append_right _ (List.mem_append_right _ (List.mem_append_right _ (List.mem_append_left _ (List.mem_of_getElem? (i := 190) rfl)))))))) rfl
set_option maxRecDepth 100000 in
theorem kw_1391 : Cond.constantLong RX12 111 (120325360869753) ∈ xg := xg_in (List.mem_append_right _ (List.mem_append_right _ (List.mem_append_right _ (List.mem_append_right _ (List.mem_append_right _ (List.mem_append_right _ (List.mem_append_left _ (List.mem_of_getElem? (i := 191) rfl)))))))) rfl
set_option maxRecDepth 100000 in
theorem kw_1392 : Cond.constantLong RX12 113 (28530) ∈ xg := xg_in (List.mem_append_right _ (List.mem_append_right _ (List.mem_append_right _ (List.mem_append_right _ (List.mem_append_right _ (List.mem_append_right _ (List.mem_append_left _ (List.mem_of_getElem? (i := 192) rfl)))))))) rfl
set_option maxRecDepth 100000 in
theorem kw_1393 : Cond.constantLong RX12 115 (6385252) ∈ xg := xg_in (List.mem_append_right _ (List.mem_append_right _ (List.mem_append_right _ (List.mem_append_right _ (List.mem_append_right _ (List.mem_append_right _ (List.mem_append_left _ (List.mem_of_getElem? (i := 193) rfl)))))))) rfl
set_option maxRecDepth 100000 in
theorem kw_1394 : Cond.constantLong RX12 117 (7237492) ∈ xg := xg_in (List.mem_append_right _ (List.mem_append_right _ (List.mem_append_right _ (List.mem_append_right _ (List.mem_append_right _ (List.mem_append_right _ (List.mem_append_left _ (List.mem_of_getElem? (i := 194) rfl)))))))) rfl
set_option maxRecDepth 100000 in
theorem kw_1395 : Cond.constantLong RX12 119 (418430678629) ∈ xg := xg_in (List.mem_append_right _ (List.mem_append_right _ (List.mem_append_right _ (List.mem_append_right _ (List.mem_append_right _ (List.mem_append_right _ (List.mem_append_left _ (List.mem_of_getElem? (i := 195) rfl)))))))) rfl
set_option maxRecDepth 100000 in
theorem kw_1396 : Cond.constantLong RX12 121 (512735409267) ∈ xg := xg_in (List.mem_append_right _ (List.mem_append_right _ (List.mem_append_right _ (List.mem_append_right _ (List.mem_append_right _ (List.mem_append_right _ (List.mem_append_left _ (List.mem_of_getElem? (i := 196) rfl)))))))) rfl
set_option maxRecDepth 100000 in
theorem kw_1397 : Cond.constantLong RX12 123 (1718379876) ∈ xg := xg_in (List.mem_append_right _ (List.mem_append_right _ (List.mem_append_right _ (List.mem_append_right _ (List.mem_append_right _ (List.mem_append_right _ (List.mem_append_left _ (List.mem_of_getElem? (i := 197) rfl)))))))) rfl
set_option maxRecDepth 100000 in
theorem kw_1398 : Cond.constantLong RX12 125 (1735156068) ∈ xg := xg_in (List.mem_append_right _ (List.mem_append_right _ (List.mem_append_right _ (List.mem_append_right _ (List.mem_append_right _ (List.mem_append_right _ (List.mem_append_left _ (List.mem_of_getElem? (i := 198) rfl)))))))) rfl
set_option maxRecDepth 100000 in
theorem kw_1399 : Cond.constantLong RX12 127 (483006772069) ∈ xg := xg_in (List.mem_append_right _ (List.mem_append_right _ (List.mem_append_right _ (List.mem_append_right _ (List.mem_append_right _ (List.mem_append_right _ (List.mem_append_left _ (List.mem_of_getElem? (i := 199) rfl)))))))) rfl
set_option maxRecDepth 100000 in
theorem kw_1400 : Cond.constantLong RX12 129 (1870095731) ∈ xg := xg_in (List.mem_append_right _ (List.mem_append_right _ (List.mem_append_right _ (List.mem_append_right _ (List.mem_append_right _ (List.mem_append_right _ (List.mem_append_left _ (List.mem_of_getElem? (i := 200) rfl)))))))) rfl
set_option maxRecDepth 100000 in
theorem kw_1401 : Cond.constantLong RX12 131 (112585612686451) ∈ xg := xg_in (List.mem_append_right _ (List.mem_append_right _ (List.mem_append_right _ (List.mem_append_right _ (List.mem_append_right _ (List.mem_append_right _ (List.mem_append_left _ (List.mem_of_getElem? (i := 201) rfl)))))))) rfl
set_option maxRecDepth 100000 in
theorem kw_1402 : Cond.constantLong RX12 133 (121450625394034) ∈ xg := xg_in (List.mem_append_right _ (List.mem_append_right _ (List.mem_append_right _ (List.mem_append_right _ (List.mem_append_right _ (List.mem_append_right _ (List.mem_append_left _ (List.mem_of_getElem? (i := 202) rfl)))))))) rfl
set_option maxRecDepth 100000 in
theorem kw_1403 : Cond.fieldLink RX12 1 RX12 "thrown" "I" ∈ xg := xg_in (List.mem_append_right _ (List.mem_append_right _ (List.mem_append_right _ (List.mem_append_right _ (List.mem_append_right _ (List.mem_append_right _ (List.mem_append_left _ (List.mem_of_getElem? (i := 203) rfl)))))))) rfl
set_option maxRecDepth 100000 in
theorem kw_1404 : Cond.fieldLink RX12 14 RX12 "tape" "[B" ∈ xg := xg_in (List.mem_append_right _ (List.mem_append_right _ (List.mem_append_right _ (List.mem_append_right _ (List.mem_append_right _ (List.mem_append_right _ (List.mem_append_left _ (List.mem_of_getElem? (i := 204) rfl)))))))) rfl
set_option maxRecDepth 100000 in
theorem kw_1405 : Cond.fieldLink RX12 7 RX12 "length" "I" ∈ xg := xg_in (List.mem_append_right _ (List.mem_append_right _ (List.mem_append_right _ (List.mem_append_right _ (List.mem_append_right _ (List.mem_append_right _ (List.mem_append_left _ (List.mem_of_getElem? (i := 205) rfl)))))))) rfl
set_option maxRecDepth 100000 in
theorem kw_1406 : Cond.fieldLink RX12 18 RX12 "size" "I" ∈ xg := xg_in (List.mem_append_right _ (List.mem_append_right _ (List.mem_append_right _ (List.mem_append_right _ (List.mem_append_right _ (List.mem_append_right _ (List.mem_append_left _ (List.mem_of_getElem? (i := 206) rfl)))))))) rfl
set_option maxRecDepth 100000 in
theorem kw_1407 : Cond.fieldLink RX12 21 RX12 "p" "I" ∈ xg := xg_in (List.mem_append_right _ (List.mem_append_right _ (List.mem_append_right _ (List.mem_append_right _ (List.mem_append_right _ (List.mem_append_right _ (List.mem_append_left _ (List.mem_of_getElem? (i := 207) rfl)))))))) rfl
set_option maxRecDepth 100000 in
theorem kw_1408 : Cond.fieldLink RX12 24 RX12 "limit" "I" ∈ xg := xg_in (List.mem_append_right _ (List.mem_append_right _ (List.mem_append_right _ (List.mem_append_right _ (List.mem_append_right _ (List.mem_append_right _ (List.mem_append_left _ (List.mem_of_getElem? (i := 208) rfl)))))))) rfl
set_option maxRecDepth 100000 in
theorem kw_1409 : Cond.fieldLink RX12 33 RX12 "s" "[I" ∈ xg := xg_in (List.mem_append_right _ (List.mem_append_right _ (List.mem_append_right _ (List.mem_append_right _ (List.mem_append_right _ (List.mem_append_right _ (List.mem_append_left _ (List.mem_of_getElem? (i := 209) rfl)))))))) rfl
set_option maxRecDepth 100000 in
theorem kw_1410 : Cond.fieldLink RX12 37 RX12 "h" "[I" ∈ xg := xg_in (List.mem_append_right _ (List.mem_append_right _ (List.mem_append_right _ (List.mem_append_right _ (List.mem_append_right _ (List.mem_append_right _ (List.mem_append_left _ (List.mem_of_getElem? (i := 210) rfl)))))))) rfl
set_option maxRecDepth 100000 in
theorem kw_1411 : Cond.fieldLink RX12 40 RX12 "read" "[I" ∈ xg := xg_in (List.mem_append_right _ (List.mem_append_right _ (List.mem_append_right _ (List.mem_append_right _ (List.mem_append_right _ (List.mem_append_right _ (List.mem_append_left _ (List.mem_of_getElem? (i := 211) rfl)))))))) rfl
set_option maxRecDepth 100000 in
theorem kw_1412 : Cond.fieldLink RX12 43 RX12 "names" "[J" ∈ xg := xg_in (List.mem_append_right _ (List.mem_append_right _ (List.mem_append_right _ (List.mem_append_right _ (List.mem_append_right _ (List.mem_append_right _ (List.mem_append_left _ (List.mem_of_getElem? (i := 212) rfl)))))))) rfl
set_option maxRecDepth 100000 in
theorem kw_1413 : Cond.fieldLink RX12 47 RX12 "reserved" "[J" ∈ xg := xg_in (List.mem_append_right _ (List.mem_append_right _ (List.mem_append_right _ (List.mem_append_right _ (List.mem_append_right _ (List.mem_append_right _ (List.mem_append_left _ (List.mem_of_getElem? (i := 213) rfl)))))))) rfl
set_option maxRecDepth 100000 in
theorem kw_1414 : Cond.fieldLink RX12 145 RX12 "token" "I" ∈ xg := xg_in (List.mem_append_right _ (List.mem_append_right _ (List.mem_append_right _ (List.mem_append_right _ (List.mem_append_right _ (List.mem_append_right _ (List.mem_append_left _ (List.mem_of_getElem? (i := 214) rfl)))))))) rfl
set_option maxRecDepth 100000 in
theorem kw_1415 : Cond.fieldLink RX12 139 RX12 "at" "I" ∈ xg := xg_in (List.mem_append_right _ (List.mem_append_right _ (List.mem_append_right _ (List.mem_append_right _ (List.mem_append_right _ (List.mem_append_right _ (List.mem_append_left _ (List.mem_of_getElem? (i := 215) rfl)))))))) rfl
set_option maxRecDepth 100000 in
theorem kw_1416 : Cond.fieldLink RX12 142 RX12 "span" "I" ∈ xg := xg_in (List.mem_append_right _ (List.mem_append_right _ (List.mem_append_right _ (List.mem_append_right _ (List.mem_append_right _ (List.mem_append_right _ (List.mem_append_left _ (List.mem_of_getElem? (i := 216) rfl)))))))) rfl
set_option maxRecDepth 100000 in
theorem kw_1417 : Cond.fieldLink RX12 155 RX12 "number" "I" ∈ xg := xg_in (List.mem_append_right _ (List.mem_append_right _ (List.mem_append_right _ (List.mem_append_right _ (List.mem_append_right _ (List.mem_append_right _ (List.mem_append_left _ (List.mem_of_getElem? (i := 217) rfl)))))))) rfl
set_option maxRecDepth 100000 in
theorem kw_1418 : Cond.fieldLink RX12 162 RX12 "fault" "I" ∈ xg := xg_in (List.mem_append_right _ (List.mem_append_right _ (List.mem_append_right _ (List.mem_append_right _ (List.mem_append_right _ (List.mem_append_right _ (List.mem_append_left _ (List.mem_of_getElem? (i := 218) rfl)))))))) rfl
set_option maxRecDepth 100000 in
theorem kw_1419 : Cond.fieldLink RX12 165 RX12 "faultAt" "I" ∈ xg := xg_in (List.mem_append_right _ (List.mem_append_right _ (List.mem_append_right _ (List.mem_append_right _ (List.mem_append_right _ (List.mem_append_right _ (List.mem_append_left _ (List.mem_of_getElem? (i := 219) rfl)))))))) rfl
set_option maxRecDepth 100000 in
theorem kw_1420 : Cond.fieldLink RX12 158 RX12 "word" "J" ∈ xg := xg_in (List.mem_append_right _ (List.mem_append_right _ (List.mem_append_right _ (List.mem_append_right _ (List.mem_append_right _ (List.mem_append_right _ (List.mem_append_left _ (List.mem_of_getElem? (i := 220) rfl)))))))) rfl
set_option maxRecDepth 100000 in
theorem kw_1421 : Cond.fieldLink RX12 181 RX12 "got" "I" ∈ xg := xg_in (List.mem_append_right _ (List.mem_append_right _ (List.mem_append_right _ (List.mem_append_right _ (List.mem_append_right _ (List.mem_append_right _ (List.mem_append_left _ (List.mem_of_getElem? (i := 221) rfl)))))))) rfl
set_option maxRecDepth 100000 in
theorem kw_1422 : Cond.fieldLink RX12 221 RX12 "lines" "I" ∈ xg := xg_in (List.mem_append_right _ (List.mem_append_right _ (List.mem_append_right _ (List.mem_append_right _ (List.mem_append_right _ (List.mem_append_right _ (List.mem_append_left _ (List.mem_of_getElem? (i := 222) rfl)))))))) rfl
set_option maxRecDepth 100000 in
theorem kw_1423 : Cond.fieldLink RX12 212 RX12 "onces" "I" ∈ xg := xg_in (List.mem_append_right _ (List.mem_append_right _ (List.mem_append_right _ (List.mem_append_right _ (List.mem_append_right _ (List.mem_append_right _ (List.mem_append_left _ (List.mem_of_getElem? (i := 223) rfl)))))))) rfl
set_option maxRecDepth 100000 in
theorem kw_1424 : Cond.fieldLink RX12 50 RX12 "undone" "[I" ∈ xg := xg_in (List.mem_append_right _ (List.mem_append_right _ (List.mem_append_right _ (List.mem_append_right _ (List.mem_append_right _ (List.mem_append_right _ (List.mem_append_left _ (List.mem_of_getElem? (i := 224) rfl)))))))) rfl
set_option maxRecDepth 100000 in
theorem kw_1425 : Cond.fieldLink RX12 53 RX12 "before" "[I" ∈ xg := xg_in (List.mem_append_right _ (List.mem_append_right _ (List.mem_append_right _ (List.mem_append_right _ (List.mem_append_right _ (List.mem_append_right _ (List.mem_append_left _ (List.mem_of_getElem? (i := 225) rfl)))))))) rfl
set_option maxRecDepth 100000 in
theorem kw_1426 : Cond.fieldLink RX12 233 RX12 "undoMany" "I" ∈ xg := xg_in (List.mem_append_right _ (List.mem_append_right _ (List.mem_append_right _ (List.mem_append_right _ (List.mem_append_right _ (List.mem_append_right _ (List.mem_append_left _ (List.mem_of_getElem? (i := 226) rfl)))))))) rfl
set_option maxRecDepth 100000 in
theorem kw_1427 : Cond.fieldLink RX12 56 RX12 "with" "[I" ∈ xg := xg_in (List.mem_append_right _ (List.mem_append_right _ (List.mem_append_right _ (List.mem_append_right _ (List.mem_append_right _ (List.mem_append_right _ (List.mem_append_left _ (List.mem_of_getElem? (i := 227) rfl)))))))) rfl
set_option maxRecDepth 100000 in
theorem kw_1428 : Cond.fieldLink RX12 59 RX12 "withSouls" "I" ∈ xg := xg_in (List.mem_append_right _ (List.mem_append_right _ (List.mem_append_right _ (List.mem_append_right _ (List.mem_append_right _ (List.mem_append_right _ (List.mem_append_left _ (List.mem_of_getElem? (i := 228) rfl)))))))) rfl
set_option maxRecDepth 100000 in
theorem kw_1429 : Cond.fieldLink RX12 353 RX12 "bidBy" "I" ∈ xg := xg_in (List.mem_append_right _ (List.mem_append_right _ (List.mem_append_right _ (List.mem_append_right _ (List.mem_append_right _ (List.mem_append_right _ (List.mem_append_left _ (List.mem_of_getElem? (i := 229) rfl)))))))) rfl
set_option maxRecDepth 100000 in
theorem kw_1430 : Cond.fieldLink RX12 356 RX12 "bidFor" "I" ∈ xg := xg_in (List.mem_append_right _ (List.mem_append_right _ (List.mem_append_right _ (List.mem_append_right _ (List.mem_append_right _ (List.mem_append_right _ (List.mem_append_left _ (List.mem_of_getElem? (i := 230) rfl)))))))) rfl
set_option maxRecDepth 100000 in
theorem kw_1431 : Cond.fieldLink RX12 385 RX12 "cheapestName" "I" ∈ xg := xg_in (List.mem_append_right _ (List.mem_append_right _ (List.mem_append_right _ (List.mem_append_right _ (List.mem_append_right _ (List.mem_append_right _ (List.mem_append_left _ (List.mem_of_getElem? (i := 231) rfl)))))))) rfl
set_option maxRecDepth 100000 in
theorem kw_1432 : Cond.fieldLink RX12 381 RX12 "hasCheapest" "Z" ∈ xg := xg_in (List.mem_append_right _ (List.mem_append_right _ (List.mem_append_right _ (List.mem_append_right _ (List.mem_append_right _ (List.mem_append_right _ (List.mem_append_left _ (List.mem_of_getElem? (i := 232) rfl)))))))) rfl
set_option maxRecDepth 100000 in
theorem kw_1433 : Cond.fieldLink RX12 317 RX12 "seed" "I" ∈ xg := xg_in (List.mem_append_right _ (List.mem_append_right _ (List.mem_append_right _ (List.mem_append_right _ (List.mem_append_right _ (List.mem_append_right _ (List.mem_append_left _ (List.mem_of_getElem? (i := 233) rfl)))))))) rfl
set_option maxRecDepth 100000 in
theorem kw_1434 : Cond.fieldLink RX12 401 RX12 "told" "I" ∈ xg := xg_in (List.mem_append_right _ (List.mem_append_right _ (List.mem_append_right _ (List.mem_append_right _ (List.mem_append_right _ (List.mem_append_right _ (List.mem_append_left _ (List.mem_of_getElem? (i := 234) rfl)))))))) rfl
set_option maxRecDepth 100000 in
theorem kw_1435 : Cond.fieldLink RX12 62 RX12 "rolledAt" "[I" ∈ xg := xg_in (List.mem_append_right _ (List.mem_append_right _ (List.mem_append_right _ (List.mem_append_right _ (List.mem_append_right _ (List.mem_append_right _ (List.mem_append_left _ (List.mem_of_getElem? (i := 235) rfl)))))))) rfl
set_option maxRecDepth 100000 in
theorem kw_1436 : Cond.fieldLink RX12 415 RX12 "hasRolled" "Z" ∈ xg := xg_in (List.mem_append_right _ (List.mem_append_right _ (List.mem_append_right _ (List.mem_append_right _ (List.mem_append_right _ (List.mem_append_right _ (List.mem_append_left _ (List.mem_of_getElem? (i := 236) rfl)))))))) rfl
set_option maxRecDepth 100000 in
theorem kw_1437 : Cond.fieldLink RX12 65 RX12 "stack" "[I" ∈ xg := xg_in (List.mem_append_right _ (List.mem_append_right _ (List.mem_append_right _ (List.mem_append_right _ (List.mem_append_right _ (List.mem_append_right _ (List.mem_append_left _ (List.mem_of_getElem? (i := 237) rfl)))))))) rfl
set_option maxRecDepth 100000 in
theorem kw_1438 : Cond.fieldLink RX12 418 RX12 "codes" "I" ∈ xg := xg_in (List.mem_append_right _ (List.mem_append_right _ (List.mem_append_right _ (List.mem_append_right _ (List.mem_append_right _ (List.mem_append_right _ (List.mem_append_left _ (List.mem_of_getElem? (i := 238) rfl)))))))) rfl
set_option maxRecDepth 100000 in
theorem kw_1439 : Cond.fieldLink RX12 433 RX12 "ones" "I" ∈ xg := xg_in (List.mem_append_right _ (List.mem_append_right _ (List.mem_append_right _ (List.mem_append_right _ (List.mem_append_right _ (List.mem_append_right _ (List.mem_append_left _ (List.mem_of_getElem? (i := 239) rfl)))))))) rfl
set_option maxRecDepth 100000 in
theorem kw_1440 : Cond.fieldLink RX12 421 RX12 "top" "I" ∈ xg := xg_in (List.mem_append_right _ (List.mem_append_right _ (List.mem_append_right _ (List.mem_append_right _ (List.mem_append_right _ (List.mem_append_right _ (List.mem_append_right _ (List.mem_append_left _ (List.mem_of_getElem? (i := 0) rfl))))))))) rfl
set_option maxRecDepth 100000 in
theorem kw_1441 : Cond.fieldLink RX12 427 RX12 "deep" "I" ∈ xg := xg_in (List.mem_append_right _ (List.mem_append_right _ (List.mem_append_right _ (List.mem_append_right _ (List.mem_append_right _ (List.mem_append_right _ (List.mem_append_right _ (List.mem_append_left _ (List.mem_of_getElem? (i := 1) rfl))))))))) rfl
set_option maxRecDepth 100000 in
theorem kw_1442 : Cond.fieldLink RX12 436 RX12 "isWhole" "Z" ∈ xg := xg_in (List.mem_append_right _ (List.mem_append_right _ (List.mem_append_right _ (List.mem_append_right _ (List.mem_append_right _ (List.mem_append_right _ (List.mem_append_right _ (List.mem_append_left _ (List.mem_of_getElem? (i := 2) rfl))))))))) rfl
set_option maxRecDepth 100000 in
theorem kw_1443 : Cond.fieldLink RX12 68 RX12 "truths" "[Z" ∈ xg := xg_in (List.mem_append_right _ (List.mem_append_right _ (List.mem_append_right _ (List.mem_append_right _ (List.mem_append_right _ (List.mem_append_right _ (List.mem_append_right _ (List.mem_append_left _ (List.mem_of_getElem? (i := 3) rfl))))))))) rfl
set_option maxRecDepth 100000 in
theorem kw_1444 : Cond.fieldLink RX12 72 RX12 "kept" "[I" ∈ xg := xg_in (List.mem_append_right _ (List.mem_append_right _ (List.mem_append_right _ (List.mem_append_right _ (List.mem_append_right _ (List.mem_append_right _ (List.mem_append_right _ (List.mem_append_left _ (List.mem_of_getElem? (i := 4) rfl))))))))) rfl
set_option maxRecDepth 100000 in
theorem kw_1445 : Cond.fieldLink RX12 75 RX12 "namesKept" "[J" ∈ xg := xg_in (List.mem_append_right _ (List.mem_append_right _ (List.mem_append_right _ (List.mem_append_right _ (List.mem_append_right _ (List.mem_append_right _ (List.mem_append_right _ (List.mem_append_left _ (List.mem_of_getElem? (i := 5) rfl))))))))) rfl
set_option maxRecDepth 100000 in
theorem kw_1446 : Cond.fieldLink RX12 78 RX12 "areKept" "[Z" ∈ xg := xg_in (List.mem_append_right _ (List.mem_append_right _ (List.mem_append_right _ (List.mem_append_right _ (List.mem_append_right _ (List.mem_append_right _ (List.mem_append_right _ (List.mem_append_left _ (List.mem_of_getElem? (i := 6) rfl))))))))) rfl
set_option maxRecDepth 100000 in
theorem kw_1541 : Cond.methodLink RX12 218 yX12_taken ∈ xg := xg_in (List.mem_append_right _ (List.mem_append_right _ (List.mem_append_right _ (List.mem_append_right _ (List.mem_append_right _ (List.mem_append_right _ (List.mem_append_right _ (List.mem_append_left _ (List.mem_of_getElem? (i := 101) rfl))))))))) rfl
set_option maxRecDepth 100000 in
theorem kw_1543 : Cond.instanceMethod yX12_taken ∈ xg := xg_in (List.mem_append_right _ (List.mem_append_right _ (List.mem_append_right _ (List.mem_append_right _ (List.mem_append_right _ (List.mem_append_right _ (List.mem_append_right _ (List.mem_append_left _ (List.mem_of_getElem? (i := 103) rfl))))))))) rfl
set_option maxRecDepth 100000 in
theorem kw_1544 : Cond.code yX12_taken cX12_taken 2 none ∈ xg := xg_in (List.mem_append_right _ (List.mem_append_right _ (List.mem_append_right _ (List.mem_append_right _ (List.mem_append_right _ (List.mem_append_right _ (List.mem_append_right _ (List.mem_append_left _ (List.mem_of_getElem? (i := 104) rfl))))))))) rfl
set_option maxRecDepth 100000 in
theorem kw_1545 : Cond.methodLink RX12 174 yX12_next ∈ xg := xg_in (List.mem_append_right _ (List.mem_append_right _ (List.mem_append_right _ (List.mem_append_right _ (List.mem_append_right _ (List.mem_append_right _ (List.mem_append_right _ (List.mem_append_left _ (List.mem_of_getElem? (i := 105) rfl))))))))) rfl
set_option maxRecDepth 100000 in
theorem kw_1547 : Cond.instanceMethod yX12_next ∈ xg := xg_in (List.mem_append_right _ (List.mem_append_right _ (List.mem_append_right _ (List.mem_append_right _ (List.mem_append_right _ (List.mem_append_right _ (List.mem_append_right _ (List.mem_append_left _ (List.mem_of_getElem? (i := 107) rfl))))))))) rfl
set_option maxRecDepth 100000 in
theorem kw_1548 : Cond.code yX12_next cX12_next 4 none ∈ xg := xg_in (List.mem_append_right _ (List.mem_append_right _ (List.mem_append_right _ (List.mem_append_right _ (List.mem_append_right _ (List.mem_append_right _ (List.mem_append_right _ (List.mem_append_left _ (List.mem_of_getElem? (i := 108) rfl))))))))) rfl
set_option maxRecDepth 100000 in
theorem kw_1549 : Cond.methodLink RX12 135 yX12_peek ∈ xg := xg_in (List.mem_append_right _ (List.mem_append_right _ (List.mem_append_right _ (List.mem_append_right _ (List.mem_append_right _ (List.mem_append_right _ (List.mem_append_right _ (List.mem_append_left _ (List.mem_of_getElem? (i := 109) rfl))))))))) rfl
set_option maxRecDepth 100000 in
theorem kw_1551 : Cond.instanceMethod yX12_peek ∈ xg := xg_in (List.mem_append_right _ (List.mem_append_right _ (List.mem_append_right _ (List.mem_append_right _ (List.mem_append_right _ (List.mem_append_right _ (List.mem_append_right _ (List.mem_append_left _ (List.mem_of_getElem? (i := 111) rfl))))))))) rfl
set_option maxRecDepth 100000 in
theorem kw_1552 : Cond.code yX12_peek cX12_peek 1 (some .int) ∈ xg := xg_in (List.mem_append_right _ (List.mem_append_right _ (List.mem_append_right _ (List.mem_append_right _ (List.mem_append_right _ (List.mem_append_right _ (List.mem_append_right _ (List.mem_append_left _ (List.mem_of_getElem? (i := 112) rfl))))))))) rfl
set_option maxRecDepth 100000 in
theorem kw_1553 : Cond.methodLink RX12 148 yX12_isSmall ∈ xg := xg_in (List.mem_append_right _ (List.mem_append_right _ (List.mem_append_right _ (List.mem_append_right _ (List.mem_append_right _ (List.mem_append_right _ (List.mem_append_right _ (List.mem_append_left _ (List.mem_of_getElem? (i := 113) rfl))))))))) rfl
set_option maxRecDepth 100000 in
theorem kw_1554 : Cond.static yX12_isSmall ∈ xg := xg_in (List.mem_append_right _ (List.mem_append_right _ (List.mem_append_right _ (List.mem_append_right _ (List.mem_append_right _ (List.mem_append_right _ (List.mem_append_right _ (List.mem_append_left _ (List.mem_of_getElem? (i := 114) rfl))))))))) rfl
set_option maxRecDepth 100000 in
theorem kw_1555 : Cond.code yX12_isSmall cX12_isSmall 1 (some .boolean) ∈ xg := xg_in (List.mem_append_right _ (List.mem_append_right _ (List.mem_append_right _ (List.mem_append_right _ (List.mem_append_right _ (List.mem_append_right _ (List.mem_append_right _ (List.mem_append_left _ (List.mem_of_getElem? (i := 115) rfl))))))))) rfl
set_option maxRecDepth 100000 in
theorem kw_1556 : Cond.methodLink RX12 152 yX12_isDigit ∈ xg := xg_in (List.mem_append_right _ (List.mem_append_right _ (List.mem_append_right _ (List.mem_append_right _ (List.mem_append_right _ (List.mem_append_right _ (List.mem_append_right _ (List.mem_append_left _ (List.mem_of_getElem? (i := 116) rfl))))))))) rfl
set_option maxRecDepth 100000 in
theorem kw_1557 : Cond.static yX12_isDigit ∈ xg := xg_in (List.mem_append_right _ (List.mem_append_right _ (List.mem_append_right _ (List.mem_append_right _ (List.mem_append_right _ (List.mem_append_right _ (List.mem_append_right _ (List.mem_append_left _ (List.mem_of_getElem? (i := 117) rfl))))))))) rfl
set_option maxRecDepth 100000 in
theorem kw_1558 : Cond.code yX12_isDigit cX12_isDigit 1 (some .boolean) ∈ xg := xg_in (List.mem_append_right _ (List.mem_append_right _ (List.mem_append_right _ (List.mem_append_right _ (List.mem_append_right _ (List.mem_append_right _ (List.mem_append_right _ (List.mem_append_left _ (List.mem_of_getElem? (i := 118) rfl))))))))) rfl
set_option maxRecDepth 100000 in
theorem kw_1559 : Cond.methodLink RX12 224 yX12_line ∈ xg := xg_in (List.mem_append_right _ (List.mem_append_right _ (List.mem_append_right _ (List.mem_append_right _ (List.mem_append_right _ (List.mem_append_right _ (List.mem_append_right _ (List.mem_append_left _ (List.mem_of_getElem? (i := 119) rfl))))))))) rfl
set_option maxRecDepth 100000 in
theorem kw_1561 : Cond.instanceMethod yX12_line ∈ xg := xg_in (List.mem_append_right _ (List.mem_append_right _ (List.mem_append_right _ (List.mem_append_right _ (List.mem_append_right _ (List.mem_append_right _ (List.mem_append_right _ (List.mem_append_left _ (List.mem_of_getElem? (i := 121) rfl))))))))) rfl
set_option maxRecDepth 100000 in
theorem kw_1562 : Cond.code yX12_line cX12_line 5 (some .boolean) ∈ xg := xg_in (List.mem_append_right _ (List.mem_append_right _ (List.mem_append_right _ (List.mem_append_right _ (List.mem_append_right _ (List.mem_append_right _ (List.mem_append_right _ (List.mem_append_left _ (List.mem_of_getElem? (i := 122) rfl))))))))) rfl
set_option maxRecDepth 100000 in
theorem kw_1563 : Cond.methodLink RX12 196 yX12_isWord ∈ xg := xg_in (List.mem_append_right _ (List.mem_append_right _ (List.mem_append_right _ (List.mem_append_right _ (List.mem_append_right _ (List.mem_append_right _ (List.mem_append_right _ (List.mem_append_left _ (List.mem_of_getElem? (i := 123) rfl))))))))) rfl
set_option maxRecDepth 100000 in
theorem kw_1565 : Cond.instanceMethod yX12_isWord ∈ xg := xg_in (List.mem_append_right _ (List.mem_append_right _ (List.mem_append_right _ (List.mem_append_right _ (List.mem_append_right _ (List.mem_append_right _ (List.mem_append_right _ (List.mem_append_left _ (List.mem_of_getElem? (i := 125) rfl))))))))) rfl
set_option maxRecDepth 100000 in
theorem kw_1566 : Cond.code yX12_isWord cX12_isWord 3 (some .boolean) ∈ xg := xg_in (List.mem_append_right _ (List.mem_append_right _ (List.mem_append_right _ (List.mem_append_right _ (List.mem_append_right _ (List.mem_append_right _ (List.mem_append_right _ (List.mem_append_left _ (List.mem_of_getElem? (i := 126) rfl))))))))) rfl
set_option maxRecDepth 100000 in
theorem kw_1567 : Cond.methodLink RX12 171 yX12_bad ∈ xg := xg_in (List.mem_append_right _ (List.mem_append_right _ (List.mem_append_right _ (List.mem_append_right _ (List.mem_append_right _ (List.mem_append_right _ (List.mem_append_right _ (List.mem_append_left _ (List.mem_of_getElem? (i := 127) rfl))))))))) rfl
set_option maxRecDepth 100000 in
theorem kw_1569 : Cond.instanceMethod yX12_bad ∈ xg := xg_in (List.mem_append_right _ (List.mem_append_right _ (List.mem_append_right _ (List.mem_append_right _ (List.mem_append_right _ (List.mem_append_right _ (List.mem_append_right _ (List.mem_append_left _ (List.mem_of_getElem? (i := 129) rfl))))))))) rfl
set_option maxRecDepth 100000 in
theorem kw_1570 : Cond.code yX12_bad cX12_bad 2 (some .boolean) ∈ xg := xg_in (List.mem_append_right _ (List.mem_append_right _ (List.mem_append_right _ (List.mem_append_right _ (List.mem_append_right _ (List.mem_append_right _ (List.mem_append_right _ (List.mem_append_left _ (List.mem_of_getElem? (i := 130) rfl))))))))) rfl
set_option maxRecDepth 100000 in
theorem kw_1571 : Cond.methodLink RX12 200 yX12_fresh ∈ xg := xg_in (List.mem_append_right _ (List.mem_append_right _ (List.mem_append_right _ (List.mem_append_right _ (List.mem_append_right _ (List.mem_append_right _ (List.mem_append_right _ (List.mem_append_left _ (List.mem_of_getElem? (i := 131) rfl))))))))) rfl
set_option maxRecDepth 100000 in
theorem kw_1573 : Cond.instanceMethod yX12_fresh ∈ xg := xg_in (List.mem_append_right _ (List.mem_append_right _ (List.mem_append_right _ (List.mem_append_right _ (List.mem_append_right _ (List.mem_append_right _ (List.mem_append_right _ (List.mem_append_left _ (List.mem_of_getElem? (i := 133) rfl))))))))) rfl
set_option maxRecDepth 100000 in
theorem kw_1574 : Cond.code yX12_fresh cX12_fresh 2 (some .boolean) ∈ xg := xg_in (List.mem_append_right _ (List.mem_append_right _ (List.mem_append_right _ (List.mem_append_right _ (List.mem_append_right _ (List.mem_append_right _ (List.mem_append_right _ (List.mem_append_left _ (List.mem_of_getElem? (i := 134) rfl))))))))) rfl
set_option maxRecDepth 100000 in
theorem kw_1575 : Cond.methodLink RX12 188 yX12_isName ∈ xg := xg_in (List.mem_append_right _ (List.mem_append_right _ (List.mem_append_right _ (List.mem_append_right _ (List.mem_append_right _ (List.mem_append_right _ (List.mem_append_right _ (List.mem_append_left _ (List.mem_of_getElem? (i := 135) rfl))))))))) rfl
set_option maxRecDepth 100000 in
theorem kw_1577 : Cond.instanceMethod yX12_isName ∈ xg := xg_in (List.mem_append_right _ (List.mem_append_right _ (List.mem_append_right _ (List.mem_append_right _ (List.mem_append_right _ (List.mem_append_right _ (List.mem_append_right _ (List.mem_append_left _ (List.mem_of_getElem? (i := 137) rfl))))))))) rfl
set_option maxRecDepth 100000 in
theorem kw_1578 : Cond.code yX12_isName cX12_isName 3 (some .boolean) ∈ xg := xg_in (List.mem_append_right _ (List.mem_append_right _ (List.mem_append_right _ (List.mem_append_right _ (List.mem_append_right _ (List.mem_append_right _ (List.mem_append_right _ (List.mem_append_left _ (List.mem_of_getElem? (i := 138) rfl))))))))) rfl
set_option maxRecDepth 100000 in
theorem kw_1579 : Cond.methodLink RX12 192 yX12_find ∈ xg := xg_in (List.mem_append_right _ (List.mem_append_right _ (List.mem_append_right _ (List.mem_append_right _ (List.mem_append_right _ (List.mem_append_right _ (List.mem_append_right _ (List.mem_append_left _ (List.mem_of_getElem? (i := 139) rfl))))))))) rfl
set_option maxRecDepth 100000 in
theorem kw_1581 : Cond.instanceMethod yX12_find ∈ xg := xg_in (List.mem_append_right _ (List.mem_append_right _ (List.mem_append_right _ (List.mem_append_right _ (List.mem_append_right _ (List.mem_append_right _ (List.mem_append_right _ (List.mem_append_left _ (List.mem_of_getElem? (i := 141) rfl))))))))) rfl
set_option maxRecDepth 100000 in
theorem kw_1582 : Cond.code yX12_find cX12_find 4 (some .int) ∈ xg := xg_in (List.mem_append_right _ (List.mem_append_right _ (List.mem_append_right _ (List.mem_append_right _ (List.mem_append_right _ (List.mem_append_right _ (List.mem_append_right _ (List.mem_append_left _ (List.mem_of_getElem? (i := 142) rfl))))))))) rfl
set_option maxRecDepth 100000 in
theorem kw_1583 : Cond.methodLink RX12 203 yX12_puts ∈ xg := xg_in (List.mem_append_right _ (List.mem_append_right _ (List.mem_append_right _ (List.mem_append_right _ (List.mem_append_right _ (List.mem_append_right _ (List.mem_append_right _ (List.mem_append_left _ (List.mem_of_getElem? (i := 143) rfl))))))))) rfl
set_option maxRecDepth 100000 in
theorem kw_1585 : Cond.instanceMethod yX12_puts ∈ xg := xg_in (List.mem_append_right _ (List.mem_append_right _ (List.mem_append_right _ (List.mem_append_right _ (List.mem_append_right _ (List.mem_append_right _ (List.mem_append_right _ (List.mem_append_left _ (List.mem_of_getElem? (i := 145) rfl))))))))) rfl
set_option maxRecDepth 100000 in
theorem kw_1586 : Cond.code yX12_puts cX12_puts 4 (some .boolean) ∈ xg := xg_in (List.mem_append_right _ (List.mem_append_right _ (List.mem_append_right _ (List.mem_append_right _ (List.mem_append_right _ (List.mem_append_right _ (List.mem_append_right _ (List.mem_append_left _ (List.mem_of_getElem? (i := 146) rfl))))))))) rfl
set_option maxRecDepth 100000 in
theorem kw_1587 : Cond.methodLink RX12 184 yX12_takes ∈ xg := xg_in (List.mem_append_right _ (List.mem_append_right _ (List.mem_append_right _ (List.mem_append_right _ (List.mem_append_right _ (List.mem_append_right _ (List.mem_append_right _ (List.mem_append_left _ (List.mem_of_getElem? (i := 147) rfl))))))))) rfl
set_option maxRecDepth 100000 in
theorem kw_1589 : Cond.instanceMethod yX12_takes ∈ xg := xg_in (List.mem_append_right _ (List.mem_append_right _ (List.mem_append_right _ (List.mem_append_right _ (List.mem_append_right _ (List.mem_append_right _ (List.mem_append_right _ (List.mem_append_left _ (List.mem_of_getElem? (i := 149) rfl))))))))) rfl
set_option maxRecDepth 100000 in
theorem kw_1590 : Cond.code yX12_takes cX12_takes 3 (some .boolean) ∈ xg := xg_in (List.mem_append_right _ (List.mem_append_right _ (List.mem_append_right _ (List.mem_append_right _ (List.mem_append_right _ (List.mem_append_right _ (List.mem_append_right _ (List.mem_append_left _ (List.mem_of_getElem? (i := 150) rfl))))))))) rfl
set_option maxRecDepth 100000 in
theorem kw_1591 : Cond.methodLink RX12 177 yX12_isIn ∈ xg := xg_in (List.mem_append_right _ (List.mem_append_right _ (List.mem_append_right _ (List.mem_append_right _ (List.mem_append_right _ (List.mem_append_right _ (List.mem_append_right _ (List.mem_append_left _ (List.mem_of_getElem? (i := 151) rfl))))))))) rfl
set_option maxRecDepth 100000 in
theorem kw_1592 : Cond.static yX12_isIn ∈ xg := xg_in (List.mem_append_right _ (List.mem_append_right _ (List.mem_append_right _ (List.mem_append_right _ (List.mem_append_right _ (List.mem_append_right _ (List.mem_append_right _ (List.mem_append_left _ (List.mem_of_getElem? (i := 152) rfl))))))))) rfl
set_option maxRecDepth 100000 in
theorem kw_1593 : Cond.code yX12_isIn cX12_isIn 3 (some .boolean) ∈ xg := xg_in (List.mem_append_right _ (List.mem_append_right _ (List.mem_append_right _ (List.mem_append_right _ (List.mem_append_right _ (List.mem_append_right _ (List.mem_append_right _ (List.mem_append_left _ (List.mem_of_getElem? (i := 153) rfl))))))))) rfl
set_option maxRecDepth 100000 in
theorem kw_1594 : Cond.methodLink RX12 206 yX12_readSoul ∈ xg := xg_in (List.mem_append_right _ (List.mem_append_right _ (List.mem_append_right _ (List.mem_append_right _ (List.mem_append_right _ (List.mem_append_right _ (List.mem_append_right _ (List.mem_append_left _ (List.mem_of_getElem? (i := 154) rfl))))))))) rfl
set_option maxRecDepth 100000 in
theorem kw_1596 : Cond.instanceMethod yX12_readSoul ∈ xg := xg_in (List.mem_append_right _ (List.mem_append_right _ (List.mem_append_right _ (List.mem_append_right _ (List.mem_append_right _ (List.mem_append_right _ (List.mem_append_right _ (List.mem_append_left _ (List.mem_of_getElem? (i := 156) rfl))))))))) rfl
set_option maxRecDepth 100000 in
theorem kw_1597 : Cond.code yX12_readSoul cX12_readSoul 3 (some .boolean) ∈ xg := xg_in (List.mem_append_right _ (List.mem_append_right _ (List.mem_append_right _ (List.mem_append_right _ (List.mem_append_right _ (List.mem_append_right _ (List.mem_append_right _ (List.mem_append_left _ (List.mem_of_getElem? (i := 157) rfl))))))))) rfl
set_option maxRecDepth 100000 in
theorem kw_1598 : Cond.methodLink RX12 209 yX12_looksAt ∈ xg := xg_in (List.mem_append_right _ (List.mem_append_right _ (List.mem_append_right _ (List.mem_append_right _ (List.mem_append_right _ (List.mem_append_right _ (List.mem_append_right _ (List.mem_append_left _ (List.mem_of_getElem? (i := 158) rfl))))))))) rfl
set_option maxRecDepth 100000 in
theorem kw_1600 : Cond.instanceMethod yX12_looksAt ∈ xg := xg_in (List.mem_append_right _ (List.mem_append_right _ (List.mem_append_right _ (List.mem_append_right _ (List.mem_append_right _ (List.mem_append_right _ (List.mem_append_right _ (List.mem_append_left _ (List.mem_of_getElem? (i := 160) rfl))))))))) rfl
set_option maxRecDepth 100000 in
theorem kw_1601 : Cond.code yX12_looksAt cX12_looksAt 3 (some .boolean) ∈ xg := xg_in (List.mem_append_right _ (List.mem_append_right _ (List.mem_append_right _ (List.mem_append_right _ (List.mem_append_right _ (List.mem_append_right _ (List.mem_append_right _ (List.mem_append_left _ (List.mem_of_getElem? (i := 161) rfl))))))))) rfl
set_option maxRecDepth 100000 in
theorem kw_1602 : Cond.methodLink RX12 215 yX12_bitOf ∈ xg := xg_in (List.mem_append_right _ (List.mem_append_right _ (List.mem_append_right _ (List.mem_append_right _ (List.mem_append_right _ (List.mem_append_right _ (List.mem_append_right _ (List.mem_append_left _ (List.mem_of_getElem? (i := 162) rfl))))))))) rfl
set_option maxRecDepth 100000 in
theorem kw_1603 : Cond.static yX12_bitOf ∈ xg := xg_in (List.mem_append_right _ (List.mem_append_right _ (List.mem_append_right _ (List.mem_append_right _ (List.mem_append_right _ (List.mem_append_right _ (List.mem_append_right _ (List.mem_append_left _ (List.mem_of_getElem? (i := 163) rfl))))))))) rfl
set_option maxRecDepth 100000 in
theorem kw_1604 : Cond.code yX12_bitOf cX12_bitOf 2 (some .boolean) ∈ xg := xg_in (List.mem_append_right _ (List.mem_append_right _ (List.mem_append_right _ (List.mem_append_right _ (List.mem_append_right _ (List.mem_append_right _ (List.mem_append_right _ (List.mem_append_left _ (List.mem_of_getElem? (i := 164) rfl))))))))) rfl
set_option maxRecDepth 100000 in
theorem kw_1605 : Cond.methodLink RX12 227 yX12_sign ∈ xg := xg_in (List.mem_append_right _ (List.mem_append_right _ (List.mem_append_right _ (List.mem_append_right _ (List.mem_append_right _ (List.mem_append_right _ (List.mem_append_right _ (List.mem_append_left _ (List.mem_of_getElem? (i := 165) rfl))))))))) rfl
set_option maxRecDepth 100000 in
theorem kw_1607 : Cond.instanceMethod yX12_sign ∈ xg := xg_in (List.mem_append_right _ (List.mem_append_right _ (List.mem_append_right _ (List.mem_append_right _ (List.mem_append_right _ (List.mem_append_right _ (List.mem_append_right _ (List.mem_append_left _ (List.mem_of_getElem? (i := 167) rfl))))))))) rfl
set_option maxRecDepth 100000 in
theorem kw_1608 : Cond.code yX12_sign cX12_sign 2 (some .boolean) ∈ xg := xg_in (List.mem_append_right _ (List.mem_append_right _ (List.mem_append_right _ (List.mem_append_right _ (List.mem_append_right _ (List.mem_append_right _ (List.mem_append_right _ (List.mem_append_left _ (List.mem_of_getElem? (i := 168) rfl))))))))) rfl
set_option maxRecDepth 100000 in
theorem kw_1609 : Cond.methodLink RX12 168 yX12_isSign ∈ xg := xg_in (List.mem_append_right _ (List.mem_append_right _ (List.mem_append_right _ (List.mem_append_right _ (List.mem_append_right _ (List.mem_append_right _ (List.mem_append_right _ (List.mem_append_left _ (List.mem_of_getElem? (i := 169) rfl))))))))) rfl
set_option maxRecDepth 100000 in
theorem kw_1611 : Cond.instanceMethod yX12_isSign ∈ xg := xg_in (List.mem_append_right _ (List.mem_append_right _ (List.mem_append_right _ (List.mem_append_right _ (List.mem_append_right _ (List.mem_append_right _ (List.mem_append_right _ (List.mem_append_left _ (List.mem_of_getElem? (i := 171) rfl))))))))) rfl
set_option maxRecDepth 100000 in
theorem kw_1612 : Cond.code yX12_isSign cX12_isSign 2 (some .boolean) ∈ xg := xg_in (List.mem_append_right _ (List.mem_append_right _ (List.mem_append_right _ (List.mem_append_right _ (List.mem_append_right _ (List.mem_append_right _ (List.mem_append_right _ (List.mem_append_left _ (List.mem_of_getElem? (i := 172) rfl))))))))) rfl
set_option maxRecDepth 100000 in
theorem kw_1613 : Cond.methodLink RX12 230 yX12_waits ∈ xg := xg_in (List.mem_append_right _ (List.mem_append_right _ (List.mem_append_right _ (List.mem_append_right _ (List.mem_append_right _ (List.mem_append_right _ (List.mem_append_right _ (List.mem_append_left _ (List.mem_of_getElem? (i := 173) rfl))))))))) rfl
set_option maxRecDepth 100000 in
theorem kw_1615 : Cond.instanceMethod yX12_waits ∈ xg := xg_in (List.mem_append_right _ (List.mem_append_right _ (List.mem_append_right _ (List.mem_append_right _ (List.mem_append_right _ (List.mem_append_right _ (List.mem_append_right _ (List.mem_append_left _ (List.mem_of_getElem? (i := 175) rfl))))))))) rfl
set_option maxRecDepth 100000 in
theorem kw_1616 : Cond.code yX12_waits cX12_waits 2 none ∈ xg := xg_in (List.mem_append_right _ (List.mem_append_right _ (List.mem_append_right _ (List.mem_append_right _ (List.mem_append_right _ (List.mem_append_right _ (List.mem_append_right _ (List.mem_append_left _ (List.mem_of_getElem? (i := 176) rfl))))))))) rfl
set_option maxRecDepth 100000 in
theorem kw_1625 : Cond.methodLink RX12 246 yX12_isNameOf ∈ xg := xg_in (List.mem_append_right _ (List.mem_append_right _ (List.mem_append_right _ (List.mem_append_right _ (List.mem_append_right _ (List.mem_append_right _ (List.mem_append_right _ (List.mem_append_left _ (List.mem_of_getElem? (i := 185) rfl))))))))) rfl
set_option maxRecDepth 100000 in
theorem kw_1627 : Cond.instanceMethod yX12_isNameOf ∈ xg := xg_in (List.mem_append_right _ (List.mem_append_right _ (List.mem_append_right _ (List.mem_append_right _ (List.mem_append_right _ (List.mem_append_right _ (List.mem_append_right _ (List.mem_append_left _ (List.mem_of_getElem? (i := 187) rfl))))))))) rfl
set_option maxRecDepth 100000 in
theorem kw_1628 : Cond.code yX12_isNameOf cX12_isNameOf 2 (some .boolean) ∈ xg := xg_in (List.mem_append_right _ (List.mem_append_right _ (List.mem_append_right _ (List.mem_append_right _ (List.mem_append_right _ (List.mem_append_right _ (List.mem_append_right _ (List.mem_append_left _ (List.mem_of_getElem? (i := 188) rfl))))))))) rfl
set_option maxRecDepth 100000 in
theorem kw_1629 : Cond.methodLink RX12 249 yX12_costOf ∈ xg := xg_in (List.mem_append_right _ (List.mem_append_right _ (List.mem_append_right _ (List.mem_append_right _ (List.mem_append_right _ (List.mem_append_right _ (List.mem_append_right _ (List.mem_append_left _ (List.mem_of_getElem? (i := 189) rfl))))))))) rfl
set_option maxRecDepth 100000 in
theorem kw_1631 : Cond.instanceMethod yX12_costOf ∈ xg := xg_in (List.mem_append_right _ (List.mem_append_right _ (List.mem_append_right _ (List.mem_append_right _ (List.mem_append_right _ (List.mem_append_right _ (List.mem_append_right _ (List.mem_append_left _ (List.mem_of_getElem? (i := 191) rfl))))))))) rfl
set_option maxRecDepth 100000 in
theorem kw_1632 : Cond.code yX12_costOf cX12_costOf 2 (some .int) ∈ xg := xg_in (List.mem_append_right _ (List.mem_append_right _ (List.mem_append_right _ (List.mem_append_right _ (List.mem_append_right _ (List.mem_append_right _ (List.mem_append_right _ (List.mem_append_left _ (List.mem_of_getElem? (i := 192) rfl))))))))) rfl
set_option maxRecDepth 100000 in
theorem kw_1633 : Cond.methodLink RX12 239 yX12_hangedFor ∈ xg := xg_in (List.mem_append_right _ (List.mem_append_right _ (List.mem_append_right _ (List.mem_append_right _ (List.mem_append_right _ (List.mem_append_right _ (List.mem_append_right _ (List.mem_append_left _ (List.mem_of_getElem? (i := 193) rfl))))))))) rfl
set_option maxRecDepth 100000 in
theorem kw_1635 : Cond.instanceMethod yX12_hangedFor ∈ xg := xg_in (List.mem_append_right _ (List.mem_append_right _ (List.mem_append_right _ (List.mem_append_right _ (List.mem_append_right _ (List.mem_append_right _ (List.mem_append_right _ (List.mem_append_left _ (List.mem_of_getElem? (i := 195) rfl))))))))) rfl
set_option maxRecDepth 100000 in
theorem kw_1636 : Cond.code yX12_hangedFor cX12_hangedFor 2 (some .int) ∈ xg := xg_in (List.mem_append_right _ (List.mem_append_right _ (List.mem_append_right _ (List.mem_append_right _ (List.mem_append_right _ (List.mem_append_right _ (List.mem_append_right _ (List.mem_append_left _ (List.mem_of_getElem? (i := 196) rfl))))))))) rfl
set_option maxRecDepth 100000 in
theorem kw_1637 : Cond.methodLink RX12 243 yX12_holderOf ∈ xg := xg_in (List.mem_append_right _ (List.mem_append_right _ (List.mem_append_right _ (List.mem_append_right _ (List.mem_append_right _ (List.mem_append_right _ (List.mem_append_right _ (List.mem_append_left _ (List.mem_of_getElem? (i := 197) rfl))))))))) rfl
set_option maxRecDepth 100000 in
theorem kw_1639 : Cond.instanceMethod yX12_holderOf ∈ xg := xg_in (List.mem_append_right _ (List.mem_append_right _ (List.mem_append_right _ (List.mem_append_right _ (List.mem_append_right _ (List.mem_append_right _ (List.mem_append_right _ (List.mem_append_left _ (List.mem_of_getElem? (i := 199) rfl))))))))) rfl
set_option maxRecDepth 100000 in
theorem kw_1640 : Cond.code yX12_holderOf cX12_holderOf 3 (some .int) ∈ xg := xg_in (List.mem_append_right _ (List.mem_append_right _ (List.mem_append_right _ (List.mem_append_right _ (List.mem_append_right _ (List.mem_append_right _ (List.mem_append_right _ (List.mem_append_left _ (List.mem_of_getElem? (i := 200) rfl))))))))) rfl
set_option maxRecDepth 100000 in
theorem kw_1645 : Cond.methodLink RX12 236 yX12_isSoul ∈ xg := xg_in (List.mem_append_right _ (List.mem_append_right _ (List.mem_append_right _ (List.mem_append_right _ (List.mem_append_right _ (List.mem_append_right _ (List.mem_append_right _ (List.mem_append_left _ (List.mem_of_getElem? (i := 205) rfl))))))))) rfl
set_option maxRecDepth 100000 in
theorem kw_1647 : Cond.instanceMethod yX12_isSoul ∈ xg := xg_in (List.mem_append_right _ (List.mem_append_right _ (List.mem_append_right _ (List.mem_append_right _ (List.mem_append_right _ (List.mem_append_right _ (List.mem_append_right _ (List.mem_append_left _ (List.mem_of_getElem? (i := 207) rfl))))))))) rfl
set_option maxRecDepth 100000 in
theorem kw_1648 : Cond.code yX12_isSoul cX12_isSoul 2 (some .boolean) ∈ xg := xg_in (List.mem_append_right _ (List.mem_append_right _ (List.mem_append_right _ (List.mem_append_right _ (List.mem_append_right _ (List.mem_append_right _ (List.mem_append_right _ (List.mem_append_left _ (List.mem_of_getElem? (i := 208) rfl))))))))) rfl
set_option maxRecDepth 100000 in
theorem kw_1649 : Cond.methodLink RX12 252 yX12_throwsIf ∈ xg := xg_in (List.mem_append_right _ (List.mem_append_right _ (List.mem_append_right _ (List.mem_append_right _ (List.mem_append_right _ (List.mem_append_right _ (List.mem_append_right _ (List.mem_append_left _ (List.mem_of_getElem? (i := 209) rfl))))))))) rfl
set_option maxRecDepth 100000 in
theorem kw_1651 : Cond.instanceMethod yX12_throwsIf ∈ xg := xg_in (List.mem_append_right _ (List.mem_append_right _ (List.mem_append_right _ (List.mem_append_right _ (List.mem_append_right _ (List.mem_append_right _ (List.mem_append_right _ (List.mem_append_left _ (List.mem_of_getElem? (i := 211) rfl))))))))) rfl
set_option maxRecDepth 100000 in
theorem kw_1652 : Cond.code yX12_throwsIf cX12_throwsIf 2 (some .boolean) ∈ xg := xg_in (List.mem_append_right _ (List.mem_append_right _ (List.mem_append_right _ (List.mem_append_right _ (List.mem_append_right _ (List.mem_append_right _ (List.mem_append_right _ (List.mem_append_left _ (List.mem_of_getElem? (i := 212) rfl))))))))) rfl
set_option maxRecDepth 100000 in
theorem kw_1653 : Cond.methodLink RX12 256 yX12_isDead ∈ xg := xg_in (List.mem_append_right _ (List.mem_append_right _ (List.mem_append_right _ (List.mem_append_right _ (List.mem_append_right _ (List.mem_append_right _ (List.mem_append_right _ (List.mem_append_left _ (List.mem_of_getElem? (i := 213) rfl))))))))) rfl
set_option maxRecDepth 100000 in
theorem kw_1655 : Cond.instanceMethod yX12_isDead ∈ xg := xg_in (List.mem_append_right _ (List.mem_append_right _ (List.mem_append_right _ (List.mem_append_right _ (List.mem_append_right _ (List.mem_append_right _ (List.mem_append_right _ (List.mem_append_left _ (List.mem_of_getElem? (i := 215) rfl))))))))) rfl
set_option maxRecDepth 100000 in
theorem kw_1656 : Cond.code yX12_isDead cX12_isDead 2 (some .boolean) ∈ xg := xg_in (List.mem_append_right _ (List.mem_append_right _ (List.mem_append_right _ (List.mem_append_right _ (List.mem_append_right _ (List.mem_append_right _ (List.mem_append_right _ (List.mem_append_left _ (List.mem_of_getElem? (i := 216) rfl))))))))) rfl
set_option maxRecDepth 100000 in
theorem kw_1657 : Cond.methodLink RX12 259 yX12_placeOf ∈ xg := xg_in (List.mem_append_right _ (List.mem_append_right _ (List.mem_append_right _ (List.mem_append_right _ (List.mem_append_right _ (List.mem_append_right _ (List.mem_append_right _ (List.mem_append_left _ (List.mem_of_getElem? (i := 217) rfl))))))))) rfl
set_option maxRecDepth 100000 in
theorem kw_1659 : Cond.instanceMethod yX12_placeOf ∈ xg := xg_in (List.mem_append_right _ (List.mem_append_right _ (List.mem_append_right _ (List.mem_append_right _ (List.mem_append_right _ (List.mem_append_right _ (List.mem_append_right _ (List.mem_append_left _ (List.mem_of_getElem? (i := 219) rfl))))))))) rfl
set_option maxRecDepth 100000 in
theorem kw_1660 : Cond.code yX12_placeOf cX12_placeOf 3 (some .int) ∈ xg := xg_in (List.mem_append_right _ (List.mem_append_right _ (List.mem_append_right _ (List.mem_append_right _ (List.mem_append_right _ (List.mem_append_right _ (List.mem_append_right _ (List.mem_append_left _ (List.mem_of_getElem? (i := 220) rfl))))))))) rfl
set_option maxRecDepth 100000 in
theorem kw_1669 : Cond.methodLink RX12 262 yX12_freeNames ∈ xg := xg_in (List.mem_append_right _ (List.mem_append_right _ (List.mem_append_right _ (List.mem_append_right _ (List.mem_append_right _ (List.mem_append_right _ (List.mem_append_right _ (List.mem_append_left _ (List.mem_of_getElem? (i := 229) rfl))))))))) rfl
set_option maxRecDepth 100000 in
theorem kw_1671 : Cond.instanceMethod yX12_freeNames ∈ xg := xg_in (List.mem_append_right _ (List.mem_append_right _ (List.mem_append_right _ (List.mem_append_right _ (List.mem_append_right _ (List.mem_append_right _ (List.mem_append_right _ (List.mem_append_left _ (List.mem_of_getElem? (i := 231) rfl))))))))) rfl
set_option maxRecDepth 100000 in
theorem kw_1672 : Cond.code yX12_freeNames cX12_freeNames 3 (some .int) ∈ xg := xg_in (List.mem_append_right _ (List.mem_append_right _ (List.mem_append_right _ (List.mem_append_right _ (List.mem_append_right _ (List.mem_append_right _ (List.mem_append_right _ (List.mem_append_left _ (List.mem_of_getElem? (i := 232) rfl))))))))) rfl
set_option maxRecDepth 100000 in
theorem kw_1673 : Cond.methodLink RX12 265 yX12_sum ∈ xg := xg_in (List.mem_append_right _ (List.mem_append_right _ (List.mem_append_right _ (List.mem_append_right _ (List.mem_append_right _ (List.mem_append_right _ (List.mem_append_right _ (List.mem_append_left _ (List.mem_of_getElem? (i := 233) rfl))))))))) rfl
set_option maxRecDepth 100000 in
theorem kw_1675 : Cond.instanceMethod yX12_sum ∈ xg := xg_in (List.mem_append_right _ (List.mem_append_right _ (List.mem_append_right _ (List.mem_append_right _ (List.mem_append_right _ (List.mem_append_right _ (List.mem_append_right _ (List.mem_append_left _ (List.mem_of_getElem? (i := 235) rfl))))))))) rfl
set_option maxRecDepth 100000 in
theorem kw_1676 : Cond.code yX12_sum cX12_sum 4 (some .int) ∈ xg := xg_in (List.mem_append_right _ (List.mem_append_right _ (List.mem_append_right _ (List.mem_append_right _ (List.mem_append_right _ (List.mem_append_right _ (List.mem_append_right _ (List.mem_append_left _ (List.mem_of_getElem? (i := 236) rfl))))))))) rfl
set_option maxRecDepth 100000 in
theorem kw_1681 : Cond.methodLink RX12 277 yX12_whyTake ∈ xg := xg_in (List.mem_append_right _ (List.mem_append_right _ (List.mem_append_right _ (List.mem_append_right _ (List.mem_append_right _ (List.mem_append_right _ (List.mem_append_right _ (List.mem_append_right _ (List.mem_append_left _ (List.mem_of_getElem? (i := 1) rfl)))))))))) rfl
set_option maxRecDepth 100000 in
theorem kw_1683 : Cond.instanceMethod yX12_whyTake ∈ xg := xg_in (List.mem_append_right _ (List.mem_append_right _ (List.mem_append_right _ (List.mem_append_right _ (List.mem_append_right _ (List.mem_append_right _ (List.mem_append_right _ (List.mem_append_right _ (List.mem_append_left _ (List.mem_of_getElem? (i := 3) rfl)))))))))) rfl
set_option maxRecDepth 100000 in
theorem kw_1684 : Cond.code yX12_whyTake cX12_whyTake 3 (some .int) ∈ xg := xg_in (List.mem_append_right _ (List.mem_append_right _ (List.mem_append_right _ (List.mem_append_right _ (List.mem_append_right _ (List.mem_append_right _ (List.mem_append_right _ (List.mem_append_right _ (List.mem_append_left _ (List.mem_of_getElem? (i := 4) rfl)))))))))) rfl
set_option maxRecDepth 100000 in
theorem kw_1685 : Cond.methodLink RX12 280 yX12_keep ∈ xg := xg_in (List.mem_append_right _ (List.mem_append_right _ (List.mem_append_right _ (List.mem_append_right _ (List.mem_append_right _ (List.mem_append_right _ (List.mem_append_right _ (List.mem_append_right _ (List.mem_append_left _ (List.mem_of_getElem? (i := 5) rfl)))))))))) rfl
set_option maxRecDepth 100000 in
theorem kw_1687 : Cond.instanceMethod yX12_keep ∈ xg := xg_in (List.mem_append_right _ (List.mem_append_right _ (List.mem_append_right _ (List.mem_append_right _ (List.mem_append_right _ (List.mem_append_right _ (List.mem_append_right _ (List.mem_append_right _ (List.mem_append_left _ (List.mem_of_getElem? (i := 7) rfl)))))))))) rfl
set_option maxRecDepth 100000 in
theorem kw_1688 : Cond.code yX12_keep cX12_keep 2 none ∈ xg := xg_in (List.mem_append_right _ (List.mem_append_right _ (List.mem_append_right _ (List.mem_append_right _ (List.mem_append_right _ (List.mem_append_right _ (List.mem_append_right _ (List.mem_append_right _ (List.mem_append_left _ (List.mem_of_getElem? (i := 8) rfl)))))))))) rfl
set_option maxRecDepth 100000 in
theorem kw_1689 : Cond.methodLink RX12 283 yX12_takesName ∈ xg := xg_in (List.mem_append_right _ (List.mem_append_right _ (List.mem_append_right _ (List.mem_append_right _ (List.mem_append_right _ (List.mem_append_right _ (List.mem_append_right _ (List.mem_append_right _ (List.mem_append_left _ (List.mem_of_getElem? (i := 9) rfl)))))))))) rfl
set_option maxRecDepth 100000 in
theorem kw_1691 : Cond.instanceMethod yX12_takesName ∈ xg := xg_in (List.mem_append_right _ (List.mem_append_right _ (List.mem_append_right _ (List.mem_append_right _ (List.mem_append_right _ (List.mem_append_right _ (List.mem_append_right _ (List.mem_append_right _ (List.mem_append_left _ (List.mem_of_getElem? (i := 11) rfl)))))))))) rfl
set_option maxRecDepth 100000 in
theorem kw_1692 : Cond.code yX12_takesName cX12_takesName 3 none ∈ xg := xg_in (List.mem_append_right _ (List.mem_append_right _ (List.mem_append_right _ (List.mem_append_right _ (List.mem_append_right _ (List.mem_append_right _ (List.mem_append_right _ (List.mem_append_right _ (List.mem_append_left _ (List.mem_of_getElem? (i := 12) rfl)))))))))) rfl
set_option maxRecDepth 100000 in
theorem kw_1693 : Cond.methodLink RX12 268 yX12_leaves ∈ xg := xg_in (List.mem_append_right _ (List.mem_append_right _ (List.mem_append_right _ (List.mem_append_right _ (List.mem_append_right _ (List.mem_append_right _ (List.mem_append_right _ (List.mem_append_right _ (List.mem_append_left _ (List.mem_of_getElem? (i := 13) rfl)))))))))) rfl
set_option maxRecDepth 100000 in
theorem kw_1695 : Cond.instanceMethod yX12_leaves ∈ xg := xg_in (List.mem_append_right _ (List.mem_append_right _ (List.mem_append_right _ (List.mem_append_right _ (List.mem_append_right _ (List.mem_append_right _ (List.mem_append_right _ (List.mem_append_right _ (List.mem_append_left _ (List.mem_of_getElem? (i := 15) rfl)))))))))) rfl
set_option maxRecDepth 100000 in
theorem kw_1696 : Cond.code yX12_leaves cX12_leaves 4 none ∈ xg := xg_in (List.mem_append_right _ (List.mem_append_right _ (List.mem_append_right _ (List.mem_append_right _ (List.mem_append_right _ (List.mem_append_right _ (List.mem_append_right _ (List.mem_append_right _ (List.mem_append_left _ (List.mem_of_getElem? (i := 16) rfl)))))))))) rfl
set_option maxRecDepth 100000 in
theorem kw_1697 : Cond.methodLink RX12 271 yX12_changes ∈ xg := xg_in (List.mem_append_right _ (List.mem_append_right _ (List.mem_append_right _ (List.mem_append_right _ (List.mem_append_right _ (List.mem_append_right _ (List.mem_append_right _ (List.mem_append_right _ (List.mem_append_left _ (List.mem_of_getElem? (i := 17) rfl)))))))))) rfl
set_option maxRecDepth 100000 in
theorem kw_1699 : Cond.instanceMethod yX12_changes ∈ xg := xg_in (List.mem_append_right _ (List.mem_append_right _ (List.mem_append_right _ (List.mem_append_right _ (List.mem_append_right _ (List.mem_append_right _ (List.mem_append_right _ (List.mem_append_right _ (List.mem_append_left _ (List.mem_of_getElem? (i := 19) rfl)))))))))) rfl
set_option maxRecDepth 100000 in
theorem kw_17 : Cond.initialized RX12 ∈ xg := xg_in (List.mem_append_right _ (List.mem_append_left _ (List.mem_of_getElem? (i := 17) rfl))) rfl
set_option maxRecDepth 100000 in
theorem kw_1700 : Cond.code yX12_changes cX12_changes 2 none ∈ xg := xg_in (List.mem_append_right _ (List.mem_append_right _ (List.mem_append_right _ (List.mem_append_right _ (List.mem_append_right _ (List.mem_append_right _ (List.mem_append_right _ (List.mem_append_right _ (List.mem_append_left _ (List.mem_of_getElem? (i := 20) rfl)))))))))) rfl
set_option maxRecDepth 100000 in
theorem kw_1705 : Cond.methodLink RX12 287 yX12_areTwo ∈ xg := xg_in (List.mem_append_right _ (List.mem_append_right _ (List.mem_append_right _ (List.mem_append_right _ (List.mem_append_right _ (List.mem_append_right _ (List.mem_append_right _ (List.mem_append_right _ (List.mem_append_left _ (List.mem_of_getElem? (i := 25) rfl)))))))))) rfl
set_option maxRecDepth 100000 in
theorem kw_1707 : Cond.instanceMethod yX12_areTwo ∈ xg := xg_in (List.mem_append_right _ (List.mem_append_right _ (List.mem_append_right _ (List.mem_append_right _ (List.mem_append_right _ (List.mem_append_right _ (List.mem_append_right _ (List.mem_append_right _ (List.mem_append_left _ (List.mem_of_getElem? (i := 27) rfl)))))))))) rfl
set_option maxRecDepth 100000 in
theorem kw_1708 : Cond.code yX12_areTwo cX12_areTwo 3 (some .boolean) ∈ xg := xg_in (List.mem_append_right _ (List.mem_append_right _ (List.mem_append_right _ (List.mem_append_right _ (List.mem_append_right _ (List.mem_append_right _ (List.mem_append_right _ (List.mem_append_right _ (List.mem_append_left _ (List.mem_of_getElem? (i := 28) rfl)))))))))) rfl
set_option maxRecDepth 100000 in
theorem kw_1709 : Cond.methodLink RX12 290 yX12_whySwap ∈ xg := xg_in (List.mem_append_right _ (List.mem_append_right _ (List.mem_append_right _ (List.mem_append_right _ (List.mem_append_right _ (List.mem_append_right _ (List.mem_append_right _ (List.mem_append_right _ (List.mem_append_left _ (List.mem_of_getElem? (i := 29) rfl)))))))))) rfl
set_option maxRecDepth 100000 in
theorem kw_1711 : Cond.instanceMethod yX12_whySwap ∈ xg := xg_in (List.mem_append_right _ (List.mem_append_right _ (List.mem_append_right _ (List.mem_append_right _ (List.mem_append_right _ (List.mem_append_right _ (List.mem_append_right _ (List.mem_append_right _ (List.mem_append_left _ (List.mem_of_getElem? (i := 31) rfl)))))))))) rfl
set_option maxRecDepth 100000 in
theorem kw_1712 : Cond.code yX12_whySwap cX12_whySwap 3 (some .int) ∈ xg := xg_in (List.mem_append_right _ (List.mem_append_right _ (List.mem_append_right _ (List.mem_append_right _ (List.mem_append_right _ (List.mem_append_right _ (List.mem_append_right _ (List.mem_append_right _ (List.mem_append_left _ (List.mem_of_getElem? (i := 32) rfl)))))))))) rfl
set_option maxRecDepth 100000 in
theorem kw_1713 : Cond.methodLink RX12 274 yX12_hasChanged ∈ xg := xg_in (List.mem_append_right _ (List.mem_append_right _ (List.mem_append_right _ (List.mem_append_right _ (List.mem_append_right _ (List.mem_append_right _ (List.mem_append_right _ (List.mem_append_right _ (List.mem_append_left _ (List.mem_of_getElem? (i := 33) rfl)))))))))) rfl
set_option maxRecDepth 100000 in
theorem kw_1715 : Cond.instanceMethod yX12_hasChanged ∈ xg := xg_in (List.mem_append_right _ (List.mem_append_right _ (List.mem_append_right _ (List.mem_append_right _ (List.mem_append_right _ (List.mem_append_right _ (List.mem_append_right _ (List.mem_append_right _ (List.mem_append_left _ (List.mem_of_getElem? (i := 35) rfl)))))))))) rfl
set_option maxRecDepth 100000 in
theorem kw_1716 : Cond.code yX12_hasChanged cX12_hasChanged 2 (some .boolean) ∈ xg := xg_in (List.mem_append_right _ (List.mem_append_right _ (List.mem_append_right _ (List.mem_append_right _ (List.mem_append_right _ (List.mem_append_right _ (List.mem_append_right _ (List.mem_append_right _ (List.mem_append_left _ (List.mem_of_getElem? (i := 36) rfl)))))))))) rfl
set_option maxRecDepth 100000 in
theorem kw_1717 : Cond.methodLink RX12 293 yX12_swapsNames ∈ xg := xg_in (List.mem_append_right _ (List.mem_append_right _ (List.mem_append_right _ (List.mem_append_right _ (List.mem_append_right _ (List.mem_append_right _ (List.mem_append_right _ (List.mem_append_right _ (List.mem_append_left _ (List.mem_of_getElem? (i := 37) rfl)))))))))) rfl
set_option maxRecDepth 100000 in
theorem kw_1719 : Cond.instanceMethod yX12_swapsNames ∈ xg := xg_in (List.mem_append_right _ (List.mem_append_right _ (List.mem_append_right _ (List.mem_append_right _ (List.mem_append_right _ (List.mem_append_right _ (List.mem_append_right _ (List.mem_append_right _ (List.mem_append_left _ (List.mem_of_getElem? (i := 39) rfl)))))))))) rfl
set_option maxRecDepth 100000 in
theorem kw_1720 : Cond.code yX12_swapsNames cX12_swapsNames 4 none ∈ xg := xg_in (List.mem_append_right _ (List.mem_append_right _ (List.mem_append_right _ (List.mem_append_right _ (List.mem_append_right _ (List.mem_append_right _ (List.mem_append_right _ (List.mem_append_right _ (List.mem_append_left _ (List.mem_of_getElem? (i := 40) rfl)))))))))) rfl
set_option maxRecDepth 100000 in
theorem kw_1725 : Cond.methodLink RX12 296 yX12_whySell ∈ xg := xg_in (List.mem_append_right _ (List.mem_append_right _ (List.mem_append_right _ (List.mem_append_right _ (List.mem_append_right _ (List.mem_append_right _ (List.mem_append_right _ (List.mem_append_right _ (List.mem_append_left _ (List.mem_of_getElem? (i := 45) rfl)))))))))) rfl
set_option maxRecDepth 100000 in
theorem kw_1727 : Cond.instanceMethod yX12_whySell ∈ xg := xg_in (List.mem_append_right _ (List.mem_append_right _ (List.mem_append_right _ (List.mem_append_right _ (List.mem_append_right _ (List.mem_append_right _ (List.mem_append_right _ (List.mem_append_right _ (List.mem_append_left _ (List.mem_of_getElem? (i := 47) rfl)))))))))) rfl
set_option maxRecDepth 100000 in
theorem kw_1728 : Cond.code yX12_whySell cX12_whySell 3 (some .int) ∈ xg := xg_in (List.mem_append_right _ (List.mem_append_right _ (List.mem_append_right _ (List.mem_append_right _ (List.mem_append_right _ (List.mem_append_right _ (List.mem_append_right _ (List.mem_append_right _ (List.mem_append_left _ (List.mem_of_getElem? (i := 48) rfl)))))))))) rfl
set_option maxRecDepth 100000 in
theorem kw_1729 : Cond.methodLink RX12 299 yX12_sellsName ∈ xg := xg_in (List.mem_append_right _ (List.mem_append_right _ (List.mem_append_right _ (List.mem_append_right _ (List.mem_append_right _ (List.mem_append_right _ (List.mem_append_right _ (List.mem_append_right _ (List.mem_append_left _ (List.mem_of_getElem? (i := 49) rfl)))))))))) rfl
set_option maxRecDepth 100000 in
theorem kw_1731 : Cond.instanceMethod yX12_sellsName ∈ xg := xg_in (List.mem_append_right _ (List.mem_append_right _ (List.mem_append_right _ (List.mem_append_right _ (List.mem_append_right _ (List.mem_append_right _ (List.mem_append_right _ (List.mem_append_right _ (List.mem_append_left _ (List.mem_of_getElem? (i := 51) rfl)))))))))) rfl
set_option maxRecDepth 100000 in
theorem kw_1732 : Cond.code yX12_sellsName cX12_sellsName 4 none ∈ xg := xg_in (List.mem_append_right _ (List.mem_append_right _ (List.mem_append_right _ (List.mem_append_right _ (List.mem_append_right _ (List.mem_append_right _ (List.mem_append_right _ (List.mem_append_right _ (List.mem_append_left _ (List.mem_of_getElem? (i := 52) rfl)))))))))) rfl
set_option maxRecDepth 100000 in
theorem kw_1737 : Cond.methodLink RX12 302 yX12_dies ∈ xg := xg_in (List.mem_append_right _ (List.mem_append_right _ (List.mem_append_right _ (List.mem_append_right _ (List.mem_append_right _ (List.mem_append_right _ (List.mem_append_right _ (List.mem_append_right _ (List.mem_append_left _ (List.mem_of_getElem? (i := 57) rfl)))))))))) rfl
set_option maxRecDepth 100000 in
theorem kw_1739 : Cond.instanceMethod yX12_dies ∈ xg := xg_in (List.mem_append_right _ (List.mem_append_right _ (List.mem_append_right _ (List.mem_append_right _ (List.mem_append_right _ (List.mem_append_right _ (List.mem_append_right _ (List.mem_append_right _ (List.mem_append_left _ (List.mem_of_getElem? (i := 59) rfl)))))))))) rfl
set_option maxRecDepth 100000 in
theorem kw_1740 : Cond.code yX12_dies cX12_dies 3 none ∈ xg := xg_in (List.mem_append_right _ (List.mem_append_right _ (List.mem_append_right _ (List.mem_append_right _ (List.mem_append_right _ (List.mem_append_right _ (List.mem_append_right _ (List.mem_append_right _ (List.mem_append_left _ (List.mem_of_getElem? (i := 60) rfl)))))))))) rfl
set_option maxRecDepth 100000 in
theorem kw_1745 : Cond.methodLink RX12 305 yX12_whyFlee ∈ xg := xg_in (List.mem_append_right _ (List.mem_append_right _ (List.mem_append_right _ (List.mem_append_right _ (List.mem_append_right _ (List.mem_append_right _ (List.mem_append_right _ (List.mem_append_right _ (List.mem_append_left _ (List.mem_of_getElem? (i := 65) rfl)))))))))) rfl
set_option maxRecDepth 100000 in
theorem kw_1747 : Cond.instanceMethod yX12_whyFlee ∈ xg := xg_in (List.mem_append_right _ (List.mem_append_right _ (List.mem_append_right _ (List.mem_append_right _ (List.mem_append_right _ (List.mem_append_right _ (List.mem_append_right _ (List.mem_append_right _ (List.mem_append_left _ (List.mem_of_getElem? (i := 67) rfl)))))))))) rfl
set_option maxRecDepth 100000 in
theorem kw_1748 : Cond.code yX12_whyFlee cX12_whyFlee 2 (some .int) ∈ xg := xg_in (List.mem_append_right _ (List.mem_append_right _ (List.mem_append_right _ (List.mem_append_right _ (List.mem_append_right _ (List.mem_append_right _ (List.mem_append_right _ (List.mem_append_right _ (List.mem_append_left _ (List.mem_of_getElem? (i := 68) rfl)))))))))) rfl
set_option maxRecDepth 100000 in
theorem kw_1749 : Cond.methodLink RX12 308 yX12_flees ∈ xg := xg_in (List.mem_append_right _ (List.mem_append_right _ (List.mem_append_right _ (List.mem_append_right _ (List.mem_append_right _ (List.mem_append_right _ (List.mem_append_right _ (List.mem_append_right _ (List.mem_append_left _ (List.mem_of_getElem? (i := 69) rfl)))))))))) rfl
set_option maxRecDepth 100000 in
theorem kw_1751 : Cond.instanceMethod yX12_flees ∈ xg := xg_in (List.mem_append_right _ (List.mem_append_right _ (List.mem_append_right _ (List.mem_append_right _ (List.mem_append_right _ (List.mem_append_right _ (List.mem_append_right _ (List.mem_append_right _ (List.mem_append_left _ (List.mem_of_getElem? (i := 71) rfl)))))))))) rfl
set_option maxRecDepth 100000 in
theorem kw_1752 : Cond.code yX12_flees cX12_flees 2 none ∈ xg := xg_in (List.mem_append_right _ (List.mem_append_right _ (List.mem_append_right _ (List.mem_append_right _ (List.mem_append_right _ (List.mem_append_right _ (List.mem_append_right _ (List.mem_append_right _ (List.mem_append_left _ (List.mem_of_getElem? (i := 72) rfl)))))))))) rfl
set_option maxRecDepth 100000 in
theorem kw_1757 : Cond.methodLink RX12 311 yX12_whyPay ∈ xg := xg_in (List.mem_append_right _ (List.mem_append_right _ (List.mem_append_right _ (List.mem_append_right _ (List.mem_append_right _ (List.mem_append_right _ (List.mem_append_right _ (List.mem_append_right _ (List.mem_append_left _ (List.mem_of_getElem? (i := 77) rfl)))))))))) rfl
set_option maxRecDepth 100000 in
theorem kw_1759 : Cond.instanceMethod yX12_whyPay ∈ xg := xg_in (List.mem_append_right _ (List.mem_append_right _ (List.mem_append_right _ (List.mem_append_right _ (List.mem_append_right _ (List.mem_append_right _ (List.mem_append_right _ (List.mem_append_right _ (List.mem_append_left _ (List.mem_of_getElem? (i := 79) rfl)))))))))) rfl
set_option maxRecDepth 100000 in
theorem kw_1760 : Cond.code yX12_whyPay cX12_whyPay 3 (some .int) ∈ xg := xg_in (List.mem_append_right _ (List.mem_append_right _ (List.mem_append_right _ (List.mem_append_right _ (List.mem_append_right _ (List.mem_append_right _ (List.mem_append_right _ (List.mem_append_right _ (List.mem_append_left _ (List.mem_of_getElem? (i := 80) rfl)))))))))) rfl
set_option maxRecDepth 100000 in
theorem kw_1761 : Cond.methodLink RX12 314 yX12_paysOff ∈ xg := xg_in (List.mem_append_right _ (List.mem_append_right _ (List.mem_append_right _ (List.mem_append_right _ (List.mem_append_right _ (List.mem_append_right _ (List.mem_append_right _ (List.mem_append_right _ (List.mem_append_left _ (List.mem_of_getElem? (i := 81) rfl)))))))))) rfl
set_option maxRecDepth 100000 in
theorem kw_1763 : Cond.instanceMethod yX12_paysOff ∈ xg := xg_in (List.mem_append_right _ (List.mem_append_right _ (List.mem_append_right _ (List.mem_append_right _ (List.mem_append_right _ (List.mem_append_right _ (List.mem_append_right _ (List.mem_append_right _ (List.mem_append_left _ (List.mem_of_getElem? (i := 83) rfl)))))))))) rfl
set_option maxRecDepth 100000 in
theorem kw_1764 : Cond.code yX12_paysOff cX12_paysOff 3 none ∈ xg := xg_in (List.mem_append_right _ (List.mem_append_right _ (List.mem_append_right _ (List.mem_append_right _ (List.mem_append_right _ (List.mem_append_right _ (List.mem_append_right _ (List.mem_append_right _ (List.mem_append_left _ (List.mem_of_getElem? (i := 84) rfl)))))))))) rfl
set_option maxRecDepth 100000 in
theorem kw_1769 : Cond.methodLink RX12 320 yX12_draw ∈ xg := xg_in (List.mem_append_right _ (List.mem_append_right _ (List.mem_append_right _ (List.mem_append_right _ (List.mem_append_right _ (List.mem_append_right _ (List.mem_append_right _ (List.mem_append_right _ (List.mem_append_left _ (List.mem_of_getElem? (i := 89) rfl)))))))))) rfl
set_option maxRecDepth 100000 in
theorem kw_1771 : Cond.instanceMethod yX12_draw ∈ xg := xg_in (List.mem_append_right _ (List.mem_append_right _ (List.mem_append_right _ (List.mem_append_right _ (List.mem_append_right _ (List.mem_append_right _ (List.mem_append_right _ (List.mem_append_right _ (List.mem_append_left _ (List.mem_of_getElem? (i := 91) rfl)))))))))) rfl
set_option maxRecDepth 100000 in
theorem kw_1772 : Cond.code yX12_draw cX12_draw 2 (some .int) ∈ xg := xg_in (List.mem_append_right _ (List.mem_append_right _ (List.mem_append_right _ (List.mem_append_right _ (List.mem_append_right _ (List.mem_append_right _ (List.mem_append_right _ (List.mem_append_right _ (List.mem_append_left _ (List.mem_of_getElem? (i := 92) rfl)))))))))) rfl
set_option maxRecDepth 100000 in
theorem kw_1773 : Cond.constant RX12 388 (1103515245) ∈ xg := xg_in (List.mem_append_right _ (List.mem_append_right _ (List.mem_append_right _ (List.mem_append_right _ (List.mem_append_right _ (List.mem_append_right _ (List.mem_append_right _ (List.mem_append_right _ (List.mem_append_left _ (List.mem_of_getElem? (i := 93) rfl)))))))))) rfl
set_option maxRecDepth 100000 in
theorem kw_1778 : Cond.methodLink RX12 326 yX12_goes ∈ xg := xg_in (List.mem_append_right _ (List.mem_append_right _ (List.mem_append_right _ (List.mem_append_right _ (List.mem_append_right _ (List.mem_append_right _ (List.mem_append_right _ (List.mem_append_right _ (List.mem_append_left _ (List.mem_of_getElem? (i := 98) rfl)))))))))) rfl
set_option maxRecDepth 100000 in
theorem kw_1780 : Cond.instanceMethod yX12_goes ∈ xg := xg_in (List.mem_append_right _ (List.mem_append_right _ (List.mem_append_right _ (List.mem_append_right _ (List.mem_append_right _ (List.mem_append_right _ (List.mem_append_right _ (List.mem_append_right _ (List.mem_append_left _ (List.mem_of_getElem? (i := 100) rfl)))))))))) rfl
set_option maxRecDepth 100000 in
theorem kw_1781 : Cond.code yX12_goes cX12_goes 3 (some .int) ∈ xg := xg_in (List.mem_append_right _ (List.mem_append_right _ (List.mem_append_right _ (List.mem_append_right _ (List.mem_append_right _ (List.mem_append_right _ (List.mem_append_right _ (List.mem_append_right _ (List.mem_append_left _ (List.mem_of_getElem? (i := 101) rfl)))))))))) rfl
set_option maxRecDepth 100000 in
theorem kw_1782 : Cond.methodLink RX12 323 yX12_monday ∈ xg := xg_in (List.mem_append_right _ (List.mem_append_right _ (List.mem_append_right _ (List.mem_append_right _ (List.mem_append_right _ (List.mem_append_right _ (List.mem_append_right _ (List.mem_append_right _ (List.mem_append_left _ (List.mem_of_getElem? (i := 102) rfl)))))))))) rfl
set_option maxRecDepth 100000 in
theorem kw_1784 : Cond.instanceMethod yX12_monday ∈ xg := xg_in (List.mem_append_right _ (List.mem_append_right _ (List.mem_append_right _ (List.mem_append_right _ (List.mem_append_right _ (List.mem_append_right _ (List.mem_append_right _ (List.mem_append_right _ (List.mem_append_left _ (List.mem_of_getElem? (i := 104) rfl)))))))))) rfl
set_option maxRecDepth 100000 in
theorem kw_1785 : Cond.code yX12_monday cX12_monday 3 none ∈ xg := xg_in (List.mem_append_right _ (List.mem_append_right _ (List.mem_append_right _ (List.mem_append_right _ (List.mem_append_right _ (List.mem_append_right _ (List.mem_append_right _ (List.mem_append_right _ (List.mem_append_left _ (List.mem_of_getElem? (i := 105) rfl)))))))))) rfl
set_option maxRecDepth 100000 in
theorem kw_1794 : Cond.methodLink RX12 329 yX12_isPast ∈ xg := xg_in (List.mem_append_right _ (List.mem_append_right _ (List.mem_append_right _ (List.mem_append_right _ (List.mem_append_right _ (List.mem_append_right _ (List.mem_append_right _ (List.mem_append_right _ (List.mem_append_left _ (List.mem_of_getElem? (i := 114) rfl)))))))))) rfl
set_option maxRecDepth 100000 in
theorem kw_1796 : Cond.instanceMethod yX12_isPast ∈ xg := xg_in (List.mem_append_right _ (List.mem_append_right _ (List.mem_append_right _ (List.mem_append_right _ (List.mem_append_right _ (List.mem_append_right _ (List.mem_append_right _ (List.mem_append_right _ (List.mem_append_left _ (List.mem_of_getElem? (i := 116) rfl)))))))))) rfl
set_option maxRecDepth 100000 in
theorem kw_1797 : Cond.code yX12_isPast cX12_isPast 2 (some .boolean) ∈ xg := xg_in (List.mem_append_right _ (List.mem_append_right _ (List.mem_append_right _ (List.mem_append_right _ (List.mem_append_right _ (List.mem_append_right _ (List.mem_append_right _ (List.mem_append_right _ (List.mem_append_left _ (List.mem_of_getElem? (i := 117) rfl)))))))))) rfl
set_option maxRecDepth 100000 in
theorem kw_1798 : Cond.methodLink RX12 332 yX12_keptOf ∈ xg := xg_in (List.mem_append_right _ (List.mem_append_right _ (List.mem_append_right _ (List.mem_append_right _ (List.mem_append_right _ (List.mem_append_right _ (List.mem_append_right _ (List.mem_append_right _ (List.mem_append_left _ (List.mem_of_getElem? (i := 118) rfl)))))))))) rfl
set_option maxRecDepth 100000 in
theorem kw_1800 : Cond.instanceMethod yX12_keptOf ∈ xg := xg_in (List.mem_append_right _ (List.mem_append_right _ (List.mem_append_right _ (List.mem_append_right _ (List.mem_append_right _ (List.mem_append_right _ (List.mem_append_right _ (List.mem_append_right _ (List.mem_append_left _ (List.mem_of_getElem? (i := 120) rfl)))))))))) rfl
set_option maxRecDepth 100000 in
theorem kw_1801 : Cond.code yX12_keptOf cX12_keptOf 3 (some .int) ∈ xg := xg_in (List.mem_append_right _ (List.mem_append_right _ (List.mem_append_right _ (List.mem_append_right _ (List.mem_append_right _ (List.mem_append_right _ (List.mem_append_right _ (List.mem_append_right _ (List.mem_append_left _ (List.mem_of_getElem? (i := 121) rfl)))))))))) rfl
set_option maxRecDepth 100000 in
theorem kw_1810 : Cond.methodLink RX12 335 yX12_endsOf ∈ xg := xg_in (List.mem_append_right _ (List.mem_append_right _ (List.mem_append_right _ (List.mem_append_right _ (List.mem_append_right _ (List.mem_append_right _ (List.mem_append_right _ (List.mem_append_right _ (List.mem_append_left _ (List.mem_of_getElem? (i := 130) rfl)))))))))) rfl
set_option maxRecDepth 100000 in
theorem kw_1812 : Cond.instanceMethod yX12_endsOf ∈ xg := xg_in (List.mem_append_right _ (List.mem_append_right _ (List.mem_append_right _ (List.mem_append_right _ (List.mem_append_right _ (List.mem_append_right _ (List.mem_append_right _ (List.mem_append_right _ (List.mem_append_left _ (List.mem_of_getElem? (i := 132) rfl)))))))))) rfl
set_option maxRecDepth 100000 in
theorem kw_1813 : Cond.code yX12_endsOf cX12_endsOf 5 (some .int) ∈ xg := xg_in (List.mem_append_right _ (List.mem_append_right _ (List.mem_append_right _ (List.mem_append_right _ (List.mem_append_right _ (List.mem_append_right _ (List.mem_append_right _ (List.mem_append_right _ (List.mem_append_left _ (List.mem_of_getElem? (i := 133) rfl)))))))))) rfl
set_option maxRecDepth 100000 in
theorem kw_1822 : Cond.methodLink RX12 344 yX12_canBe ∈ xg := xg_in (List.mem_append_right _ (List.mem_append_right _ (List.mem_append_right _ (List.mem_append_right _ (List.mem_append_right _ (List.mem_append_right _ (List.mem_append_right _ (List.mem_append_right _ (List.mem_append_left _ (List.mem_of_getElem? (i := 142) rfl)))))))))) rfl
set_option maxRecDepth 100000 in
theorem kw_1824 : Cond.instanceMethod yX12_canBe ∈ xg := xg_in (List.mem_append_right _ (List.mem_append_right _ (List.mem_append_right _ (List.mem_append_right _ (List.mem_append_right _ (List.mem_append_right _ (List.mem_append_right _ (List.mem_append_right _ (List.mem_append_left _ (List.mem_of_getElem? (i := 144) rfl)))))))))) rfl
set_option maxRecDepth 100000 in
theorem kw_1825 : Cond.code yX12_canBe cX12_canBe 3 (some .boolean) ∈ xg := xg_in (List.mem_append_right _ (List.mem_append_right _ (List.mem_append_right _ (List.mem_append_right _ (List.mem_append_right _ (List.mem_append_right _ (List.mem_append_right _ (List.mem_append_right _ (List.mem_append_left _ (List.mem_of_getElem? (i := 145) rfl)))))))))) rfl
set_option maxRecDepth 100000 in
theorem kw_1826 : Cond.methodLink RX12 338 yX12_doesWish ∈ xg := xg_in (List.mem_append_right _ (List.mem_append_right _ (List.mem_append_right _ (List.mem_append_right _ (List.mem_append_right _ (List.mem_append_right _ (List.mem_append_right _ (List.mem_append_right _ (List.mem_append_left _ (List.mem_of_getElem? (i := 146) rfl)))))))))) rfl
set_option maxRecDepth 100000 in
theorem kw_1828 : Cond.instanceMethod yX12_doesWish ∈ xg := xg_in (List.mem_append_right _ (List.mem_append_right _ (List.mem_append_right _ (List.mem_append_right _ (List.mem_append_right _ (List.mem_append_right _ (List.mem_append_right _ (List.mem_append_right _ (List.mem_append_left _ (List.mem_of_getElem? (i := 148) rfl)))))))))) rfl
set_option maxRecDepth 100000 in
theorem kw_1829 : Cond.code yX12_doesWish cX12_doesWish 2 (some .boolean) ∈ xg := xg_in (List.mem_append_right _ (List.mem_append_right _ (List.mem_append_right _ (List.mem_append_right _ (List.mem_append_right _ (List.mem_append_right _ (List.mem_append_right _ (List.mem_append_right _ (List.mem_append_left _ (List.mem_of_getElem? (i := 149) rfl)))))))))) rfl
set_option maxRecDepth 100000 in
theorem kw_1830 : Cond.methodLink RX12 341 yX12_wished ∈ xg := xg_in (List.mem_append_right _ (List.mem_append_right _ (List.mem_append_right _ (List.mem_append_right _ (List.mem_append_right _ (List.mem_append_right _ (List.mem_append_right _ (List.mem_append_right _ (List.mem_append_left _ (List.mem_of_getElem? (i := 150) rfl)))))))))) rfl
set_option maxRecDepth 100000 in
theorem kw_1832 : Cond.instanceMethod yX12_wished ∈ xg := xg_in (List.mem_append_right _ (List.mem_append_right _ (List.mem_append_right _ (List.mem_append_right _ (List.mem_append_right _ (List.mem_append_right _ (List.mem_append_right _ (List.mem_append_right _ (List.mem_append_left _ (List.mem_of_getElem? (i := 152) rfl)))))))))) rfl
set_option maxRecDepth 100000 in
theorem kw_1833 : Cond.code yX12_wished cX12_wished 2 (some .int) ∈ xg := xg_in (List.mem_append_right _ (List.mem_append_right _ (List.mem_append_right _ (List.mem_append_right _ (List.mem_append_right _ (List.mem_append_right _ (List.mem_append_right _ (List.mem_append_right _ (List.mem_append_left _ (List.mem_of_getElem? (i := 153) rfl)))))))))) rfl
set_option maxRecDepth 100000 in
theorem kw_1834 : Cond.methodLink RX12 347 yX12_isMet ∈ xg := xg_in (List.mem_append_right _ (List.mem_append_right _ (List.mem_append_right _ (List.mem_append_right _ (List.mem_append_right _ (List.mem_append_right _ (List.mem_append_right _ (List.mem_append_right _ (List.mem_append_left _ (List.mem_of_getElem? (i := 154) rfl)))))))))) rfl
set_option maxRecDepth 100000 in
theorem kw_1836 : Cond.instanceMethod yX12_isMet ∈ xg := xg_in (List.mem_append_right _ (List.mem_append_right _ (List.mem_append_right _ (List.mem_append_right _ (List.mem_append_right _ (List.mem_append_right _ (List.mem_append_right _ (List.mem_append_right _ (List.mem_append_left _ (List.mem_of_getElem? (i := 156) rfl)))))))))) rfl
set_option maxRecDepth 100000 in
theorem kw_1837 : Cond.code yX12_isMet cX12_isMet 2 (some .boolean) ∈ xg := xg_in (List.mem_append_right _ (List.mem_append_right _ (List.mem_append_right _ (List.mem_append_right _ (List.mem_append_right _ (List.mem_append_right _ (List.mem_append_right _ (List.mem_append_right _ (List.mem_append_left _ (List.mem_of_getElem? (i := 157) rfl)))))))))) rfl
set_option maxRecDepth 100000 in
theorem kw_1842 : Cond.methodLink RX12 350 yX12_lesser ∈ xg := xg_in (List.mem_append_right _ (List.mem_append_right _ (List.mem_append_right _ (List.mem_append_right _ (List.mem_append_right _ (List.mem_append_right _ (List.mem_append_right _ (List.mem_append_right _ (List.mem_append_left _ (List.mem_of_getElem? (i := 162) rfl)))))))))) rfl
set_option maxRecDepth 100000 in
theorem kw_1843 : Cond.static yX12_lesser ∈ xg := xg_in (List.mem_append_right _ (List.mem_append_right _ (List.mem_append_right _ (List.mem_append_right _ (List.mem_append_right _ (List.mem_append_right _ (List.mem_append_right _ (List.mem_append_right _ (List.mem_append_left _ (List.mem_of_getElem? (i := 163) rfl)))))))))) rfl
set_option maxRecDepth 100000 in
theorem kw_1844 : Cond.code yX12_lesser cX12_lesser 2 (some .int) ∈ xg := xg_in (List.mem_append_right _ (List.mem_append_right _ (List.mem_append_right _ (List.mem_append_right _ (List.mem_append_right _ (List.mem_append_right _ (List.mem_append_right _ (List.mem_append_right _ (List.mem_append_left _ (List.mem_of_getElem? (i := 164) rfl)))))))))) rfl
set_option maxRecDepth 100000 in
theorem kw_1853 : Cond.methodLink RX12 359 yX12_bids ∈ xg := xg_in (List.mem_append_right _ (List.mem_append_right _ (List.mem_append_right _ (List.mem_append_right _ (List.mem_append_right _ (List.mem_append_right _ (List.mem_append_right _ (List.mem_append_right _ (List.mem_append_left _ (List.mem_of_getElem? (i := 173) rfl)))))))))) rfl
set_option maxRecDepth 100000 in
theorem kw_1855 : Cond.instanceMethod yX12_bids ∈ xg := xg_in (List.mem_append_right _ (List.mem_append_right _ (List.mem_append_right _ (List.mem_append_right _ (List.mem_append_right _ (List.mem_append_right _ (List.mem_append_right _ (List.mem_append_right _ (List.mem_append_left _ (List.mem_of_getElem? (i := 175) rfl)))))))))) rfl
set_option maxRecDepth 100000 in
theorem kw_1856 : Cond.code yX12_bids cX12_bids 7 none ∈ xg := xg_in (List.mem_append_right _ (List.mem_append_right _ (List.mem_append_right _ (List.mem_append_right _ (List.mem_append_right _ (List.mem_append_right _ (List.mem_append_right _ (List.mem_append_right _ (List.mem_append_left _ (List.mem_of_getElem? (i := 176) rfl)))))))))) rfl
set_option maxRecDepth 100000 in
theorem kw_1869 : Cond.methodLink RX12 362 yX12_octet ∈ xg := xg_in (List.mem_append_right _ (List.mem_append_right _ (List.mem_append_right _ (List.mem_append_right _ (List.mem_append_right _ (List.mem_append_right _ (List.mem_append_right _ (List.mem_append_right _ (List.mem_append_left _ (List.mem_of_getElem? (i := 189) rfl)))))))))) rfl
set_option maxRecDepth 100000 in
theorem kw_1871 : Cond.instanceMethod yX12_octet ∈ xg := xg_in (List.mem_append_right _ (List.mem_append_right _ (List.mem_append_right _ (List.mem_append_right _ (List.mem_append_right _ (List.mem_append_right _ (List.mem_append_right _ (List.mem_append_right _ (List.mem_append_left _ (List.mem_of_getElem? (i := 191) rfl)))))))))) rfl
set_option maxRecDepth 100000 in
theorem kw_1872 : Cond.code yX12_octet cX12_octet 2 (some .int) ∈ xg := xg_in (List.mem_append_right _ (List.mem_append_right _ (List.mem_append_right _ (List.mem_append_right _ (List.mem_append_right _ (List.mem_append_right _ (List.mem_append_right _ (List.mem_append_right _ (List.mem_append_left _ (List.mem_of_getElem? (i := 192) rfl)))))))))) rfl
set_option maxRecDepth 100000 in
theorem kw_1877 : Cond.methodLink RX12 374 yX12_hasEnough ∈ xg := xg_in (List.mem_append_right _ (List.mem_append_right _ (List.mem_append_right _ (List.mem_append_right _ (List.mem_append_right _ (List.mem_append_right _ (List.mem_append_right _ (List.mem_append_right _ (List.mem_append_left _ (List.mem_of_getElem? (i := 197) rfl)))))))))) rfl
set_option maxRecDepth 100000 in
theorem kw_1879 : Cond.instanceMethod yX12_hasEnough ∈ xg := xg_in (List.mem_append_right _ (List.mem_append_right _ (List.mem_append_right _ (List.mem_append_right _ (List.mem_append_right _ (List.mem_append_right _ (List.mem_append_right _ (List.mem_append_right _ (List.mem_append_left _ (List.mem_of_getElem? (i := 199) rfl)))))))))) rfl
set_option maxRecDepth 100000 in
theorem kw_1880 : Cond.code yX12_hasEnough cX12_hasEnough 5 (some .boolean) ∈ xg := xg_in (List.mem_append_right _ (List.mem_append_right _ (List.mem_append_right _ (List.mem_append_right _ (List.mem_append_right _ (List.mem_append_right _ (List.mem_append_right _ (List.mem_append_right _ (List.mem_append_left _ (List.mem_of_getElem? (i := 200) rfl)))))))))) rfl
set_option maxRecDepth 100000 in
theorem kw_1881 : Cond.methodLink RX12 365 yX12_waitSet ∈ xg := xg_in (List.mem_append_right _ (List.mem_append_right _ (List.mem_append_right _ (List.mem_append_right _ (List.mem_append_right _ (List.mem_append_right _ (List.mem_append_right _ (List.mem_append_right _ (List.mem_append_left _ (List.mem_of_getElem? (i := 201) rfl)))))))))) rfl
set_option maxRecDepth 100000 in
theorem kw_1883 : Cond.instanceMethod yX12_waitSet ∈ xg := xg_in (List.mem_append_right _ (List.mem_append_right _ (List.mem_append_right _ (List.mem_append_right _ (List.mem_append_right _ (List.mem_append_right _ (List.mem_append_right _ (List.mem_append_right _ (List.mem_append_left _ (List.mem_of_getElem? (i := 203) rfl)))))))))) rfl
set_option maxRecDepth 100000 in
theorem kw_1884 : Cond.code yX12_waitSet cX12_waitSet 3 (some .int) ∈ xg := xg_in (List.mem_append_right _ (List.mem_append_right _ (List.mem_append_right _ (List.mem_append_right _ (List.mem_append_right _ (List.mem_append_right _ (List.mem_append_right _ (List.mem_append_right _ (List.mem_append_left _ (List.mem_of_getElem? (i := 204) rfl)))))))))) rfl
set_option maxRecDepth 100000 in
theorem kw_1885 : Cond.methodLink RX12 368 yX12_calledSet ∈ xg := xg_in (List.mem_append_right _ (List.mem_append_right _ (List.mem_append_right _ (List.mem_append_right _ (List.mem_append_right _ (List.mem_append_right _ (List.mem_append_right _ (List.mem_append_right _ (List.mem_append_left _ (List.mem_of_getElem? (i := 205) rfl)))))))))) rfl
set_option maxRecDepth 100000 in
theorem kw_1887 : Cond.instanceMethod yX12_calledSet ∈ xg := xg_in (List.mem_append_right _ (List.mem_append_right _ (List.mem_append_right _ (List.mem_append_right _ (List.mem_append_right _ (List.mem_append_right _ (List.mem_append_right _ (List.mem_append_right _ (List.mem_append_left _ (List.mem_of_getElem? (i := 207) rfl)))))))))) rfl
set_option maxRecDepth 100000 in
theorem kw_1888 : Cond.code yX12_calledSet cX12_calledSet 3 (some .int) ∈ xg := xg_in (List.mem_append_right _ (List.mem_append_right _ (List.mem_append_right _ (List.mem_append_right _ (List.mem_append_right _ (List.mem_append_right _ (List.mem_append_right _ (List.mem_append_right _ (List.mem_append_left _ (List.mem_of_getElem? (i := 208) rfl)))))))))) rfl
set_option maxRecDepth 100000 in
theorem kw_1889 : Cond.methodLink RX12 371 yX12_bits ∈ xg := xg_in (List.mem_append_right _ (List.mem_append_right _ (List.mem_append_right _ (List.mem_append_right _ (List.mem_append_right _ (List.mem_append_right _ (List.mem_append_right _ (List.mem_append_right _ (List.mem_append_left _ (List.mem_of_getElem? (i := 209) rfl)))))))))) rfl
set_option maxRecDepth 100000 in
theorem kw_1890 : Cond.static yX12_bits ∈ xg := xg_in (List.mem_append_right _ (List.mem_append_right _ (List.mem_append_right _ (List.mem_append_right _ (List.mem_append_right _ (List.mem_append_right _ (List.mem_append_right _ (List.mem_append_right _ (List.mem_append_left _ (List.mem_of_getElem? (i := 210) rfl)))))))))) rfl
set_option maxRecDepth 100000 in
theorem kw_1891 : Cond.code yX12_bits cX12_bits 3 (some .int) ∈ xg := xg_in (List.mem_append_right _ (List.mem_append_right _ (List.mem_append_right _ (List.mem_append_right _ (List.mem_append_right _ (List.mem_append_right _ (List.mem_append_right _ (List.mem_append_right _ (List.mem_append_left _ (List.mem_of_getElem? (i := 211) rfl)))))))))) rfl
set_option maxRecDepth 100000 in
theorem kw_1900 : Cond.constant RX12 377 (100000) ∈ xg := xg_in (List.mem_append_right _ (List.mem_append_right _ (List.mem_append_right _ (List.mem_append_right _ (List.mem_append_right _ (List.mem_append_right _ (List.mem_append_right _ (List.mem_append_right _ (List.mem_append_left _ (List.mem_of_getElem? (i := 220) rfl)))))))))) rfl
set_option maxRecDepth 100000 in
theorem kw_1901 : Cond.methodLink RX12 378 yX12_coinFor ∈ xg := xg_in (List.mem_append_right _ (List.mem_append_right _ (List.mem_append_right _ (List.mem_append_right _ (List.mem_append_right _ (List.mem_append_right _ (List.mem_append_right _ (List.mem_append_right _ (List.mem_append_left _ (List.mem_of_getElem? (i := 221) rfl)))))))))) rfl
set_option maxRecDepth 100000 in
theorem kw_1903 : Cond.instanceMethod yX12_coinFor ∈ xg := xg_in (List.mem_append_right _ (List.mem_append_right _ (List.mem_append_right _ (List.mem_append_right _ (List.mem_append_right _ (List.mem_append_right _ (List.mem_append_right _ (List.mem_append_right _ (List.mem_append_left _ (List.mem_of_getElem? (i := 223) rfl)))))))))) rfl
set_option maxRecDepth 100000 in
theorem kw_1904 : Cond.code yX12_coinFor cX12_coinFor 4 (some .int) ∈ xg := xg_in (List.mem_append_right _ (List.mem_append_right _ (List.mem_append_right _ (List.mem_append_right _ (List.mem_append_right _ (List.mem_append_right _ (List.mem_append_right _ (List.mem_append_right _ (List.mem_append_left _ (List.mem_of_getElem? (i := 224) rfl)))))))))) rfl
set_option maxRecDepth 100000 in
theorem kw_1921 : Cond.methodLink RX12 392 yX12_goesBy ∈ xg := xg_in (List.mem_append_right _ (List.mem_append_right _ (List.mem_append_right _ (List.mem_append_right _ (List.mem_append_right _ (List.mem_append_right _ (List.mem_append_right _ (List.mem_append_right _ (List.mem_append_right _ (List.mem_of_getElem? (i := 1) rfl)))))))))) rfl
set_option maxRecDepth 100000 in
theorem kw_1923 : Cond.instanceMethod yX12_goesBy ∈ xg := xg_in (List.mem_append_right _ (List.mem_append_right _ (List.mem_append_right _ (List.mem_append_right _ (List.mem_append_right _ (List.mem_append_right _ (List.mem_append_right _ (List.mem_append_right _ (List.mem_append_right _ (List.mem_of_getElem? (i := 3) rfl)))))))))) rfl
set_option maxRecDepth 100000 in
theorem kw_1924 : Cond.code yX12_goesBy cX12_goesBy 5 (some .int) ∈ xg := xg_in (List.mem_append_right _ (List.mem_append_right _ (List.mem_append_right _ (List.mem_append_right _ (List.mem_append_right _ (List.mem_append_right _ (List.mem_append_right _ (List.mem_append_right _ (List.mem_append_right _ (List.mem_of_getElem? (i := 4) rfl)))))))))) rfl
set_option maxRecDepth 100000 in
theorem kw_1925 : Cond.methodLink RX12 389 yX12_draws ∈ xg := xg_in (List.mem_append_right _ (List.mem_append_right _ (List.mem_append_right _ (List.mem_append_right _ (List.mem_append_right _ (List.mem_append_right _ (List.mem_append_right _ (List.mem_append_right _ (List.mem_append_right _ (List.mem_of_getElem? (i := 5) rfl)))))))))) rfl
set_option maxRecDepth 100000 in
theorem kw_1927 : Cond.instanceMethod yX12_draws ∈ xg := xg_in (List.mem_append_right _ (List.mem_append_right _ (List.mem_append_right _ (List.mem_append_right _ (List.mem_append_right _ (List.mem_append_right _ (List.mem_append_right _ (List.mem_append_right _ (List.mem_append_right _ (List.mem_of_getElem? (i := 7) rfl)))))))))) rfl
set_option maxRecDepth 100000 in
theorem kw_1928 : Cond.code yX12_draws cX12_draws 4 none ∈ xg := xg_in (List.mem_append_right _ (List.mem_append_right _ (List.mem_append_right _ (List.mem_append_right _ (List.mem_append_right _ (List.mem_append_right _ (List.mem_append_right _ (List.mem_append_right _ (List.mem_append_right _ (List.mem_of_getElem? (i := 8) rfl)))))))))) rfl
set_option maxRecDepth 100000 in
theorem kw_1933 : Cond.methodLink RX12 395 yX12_tries ∈ xg := xg_in (List.mem_append_right _ (List.mem_append_right _ (List.mem_append_right _ (List.mem_append_right _ (List.mem_append_right _ (List.mem_append_right _ (List.mem_append_right _ (List.mem_append_right _ (List.mem_append_right _ (List.mem_of_getElem? (i := 13) rfl)))))))))) rfl
set_option maxRecDepth 100000 in
theorem kw_1935 : Cond.instanceMethod yX12_tries ∈ xg := xg_in (List.mem_append_right _ (List.mem_append_right _ (List.mem_append_right _ (List.mem_append_right _ (List.mem_append_right _ (List.mem_append_right _ (List.mem_append_right _ (List.mem_append_right _ (List.mem_append_right _ (List.mem_of_getElem? (i := 15) rfl)))))))))) rfl
set_option maxRecDepth 100000 in
theorem kw_1936 : Cond.code yX12_tries cX12_tries 2 none ∈ xg := xg_in (List.mem_append_right _ (List.mem_append_right _ (List.mem_append_right _ (List.mem_append_right _ (List.mem_append_right _ (List.mem_append_right _ (List.mem_append_right _ (List.mem_append_right _ (List.mem_append_right _ (List.mem_of_getElem? (i := 16) rfl)))))))))) rfl
set_option maxRecDepth 100000 in
theorem kw_1937 : Cond.methodLink RX12 398 yX12_back ∈ xg := xg_in (List.mem_append_right _ (List.mem_append_right _ (List.mem_append_right _ (List.mem_append_right _ (List.mem_append_right _ (List.mem_append_right _ (List.mem_append_right _ (List.mem_append_right _ (List.mem_append_right _ (List.mem_of_getElem? (i := 17) rfl)))))))))) rfl
set_option maxRecDepth 100000 in
theorem kw_1939 : Cond.instanceMethod yX12_back ∈ xg := xg_in (List.mem_append_right _ (List.mem_append_right _ (List.mem_append_right _ (List.mem_append_right _ (List.mem_append_right _ (List.mem_append_right _ (List.mem_append_right _ (List.mem_append_right _ (List.mem_append_right _ (List.mem_of_getElem? (i := 19) rfl)))))))))) rfl
set_option maxRecDepth 100000 in
theorem kw_1940 : Cond.code yX12_back cX12_back 2 none ∈ xg := xg_in (List.mem_append_right _ (List.mem_append_right _ (List.mem_append_right _ (List.mem_append_right _ (List.mem_append_right _ (List.mem_append_right _ (List.mem_append_right _ (List.mem_append_right _ (List.mem_append_right _ (List.mem_of_getElem? (i := 20) rfl)))))))))) rfl
set_option maxRecDepth 100000 in
theorem kw_1945 : Cond.methodLink RX12 404 yX12_rollLine ∈ xg := xg_in (List.mem_append_right _ (List.mem_append_right _ (List.mem_append_right _ (List.mem_append_right _ (List.mem_append_right _ (List.mem_append_right _ (List.mem_append_right _ (List.mem_append_right _ (List.mem_append_right _ (List.mem_of_getElem? (i := 25) rfl)))))))))) rfl
set_option maxRecDepth 100000 in
theorem kw_1947 : Cond.instanceMethod yX12_rollLine ∈ xg := xg_in (List.mem_append_right _ (List.mem_append_right _ (List.mem_append_right _ (List.mem_append_right _ (List.mem_append_right _ (List.mem_append_right _ (List.mem_append_right _ (List.mem_append_right _ (List.mem_append_right _ (List.mem_of_getElem? (i := 27) rfl)))))))))) rfl
set_option maxRecDepth 100000 in
theorem kw_1948 : Cond.code yX12_rollLine cX12_rollLine 3 (some .boolean) ∈ xg := xg_in (List.mem_append_right _ (List.mem_append_right _ (List.mem_append_right _ (List.mem_append_right _ (List.mem_append_right _ (List.mem_append_right _ (List.mem_append_right _ (List.mem_append_right _ (List.mem_append_right _ (List.mem_of_getElem? (i := 28) rfl)))))))))) rfl
set_option maxRecDepth 100000 in
theorem kw_1949 : Cond.methodLink RX12 407 yX12_whyLine ∈ xg := xg_in (List.mem_append_right _ (List.mem_append_right _ (List.mem_append_right _ (List.mem_append_right _ (List.mem_append_right _ (List.mem_append_right _ (List.mem_append_right _ (List.mem_append_right _ (List.mem_append_right _ (List.mem_of_getElem? (i := 29) rfl)))))))))) rfl
set_option maxRecDepth 100000 in
theorem kw_1951 : Cond.instanceMethod yX12_whyLine ∈ xg := xg_in (List.mem_append_right _ (List.mem_append_right _ (List.mem_append_right _ (List.mem_append_right _ (List.mem_append_right _ (List.mem_append_right _ (List.mem_append_right _ (List.mem_append_right _ (List.mem_append_right _ (List.mem_of_getElem? (i := 31) rfl)))))))))) rfl
set_option maxRecDepth 100000 in
theorem kw_1952 : Cond.code yX12_whyLine cX12_whyLine 4 (some .int) ∈ xg := xg_in (List.mem_append_right _ (List.mem_append_right _ (List.mem_append_right _ (List.mem_append_right _ (List.mem_append_right _ (List.mem_append_right _ (List.mem_append_right _ (List.mem_append_right _ (List.mem_append_right _ (List.mem_of_getElem? (i := 32) rfl)))))))))) rfl
set_option maxRecDepth 100000 in
theorem kw_1953 : Cond.methodLink RX12 411 yX12_livesLine ∈ xg := xg_in (List.mem_append_right _ (List.mem_append_right _ (List.mem_append_right _ (List.mem_append_right _ (List.mem_append_right _ (List.mem_append_right _ (List.mem_append_right _ (List.mem_append_right _ (List.mem_append_right _ (List.mem_of_getElem? (i := 33) rfl)))))))))) rfl
set_option maxRecDepth 100000 in
theorem kw_1955 : Cond.instanceMethod yX12_livesLine ∈ xg := xg_in (List.mem_append_right _ (List.mem_append_right _ (List.mem_append_right _ (List.mem_append_right _ (List.mem_append_right _ (List.mem_append_right _ (List.mem_append_right _ (List.mem_append_right _ (List.mem_append_right _ (List.mem_of_getElem? (i := 35) rfl)))))))))) rfl
set_option maxRecDepth 100000 in
theorem kw_1956 : Cond.code yX12_livesLine cX12_livesLine 4 none ∈ xg := xg_in (List.mem_append_right _ (List.mem_append_right _ (List.mem_append_right _ (List.mem_append_right _ (List.mem_append_right _ (List.mem_append_right _ (List.mem_append_right _ (List.mem_append_right _ (List.mem_append_right _ (List.mem_of_getElem? (i := 36) rfl)))))))))) rfl
set_option maxRecDepth 100000 in
theorem kw_1965 : Cond.methodLink RX12 439 yX12_nots ∈ xg := xg_in (List.mem_append_right _ (List.mem_append_right _ (List.mem_append_right _ (List.mem_append_right _ (List.mem_append_right _ (List.mem_append_right _ (List.mem_append_right _ (List.mem_append_right _ (List.mem_append_right _ (List.mem_of_getElem? (i := 45) rfl)))))))))) rfl
set_option maxRecDepth 100000 in
theorem kw_1967 : Cond.instanceMethod yX12_nots ∈ xg := xg_in (List.mem_append_right _ (List.mem_append_right _ (List.mem_append_right _ (List.mem_append_right _ (List.mem_append_right _ (List.mem_append_right _ (List.mem_append_right _ (List.mem_append_right _ (List.mem_append_right _ (List.mem_of_getElem? (i := 47) rfl)))))))))) rfl
set_option maxRecDepth 100000 in
theorem kw_1968 : Cond.code yX12_nots cX12_nots 1 none ∈ xg := xg_in (List.mem_append_right _ (List.mem_append_right _ (List.mem_append_right _ (List.mem_append_right _ (List.mem_append_right _ (List.mem_append_right _ (List.mem_append_right _ (List.mem_append_right _ (List.mem_append_right _ (List.mem_of_getElem? (i := 48) rfl)))))))))) rfl
set_option maxRecDepth 100000 in
theorem kw_1969 : Cond.methodLink RX12 424 yX12_code ∈ xg := xg_in (List.mem_append_right _ (List.mem_append_right _ (List.mem_append_right _ (List.mem_append_right _ (List.mem_append_right _ (List.mem_append_right _ (List.mem_append_right _ (List.mem_append_right _ (List.mem_append_right _ (List.mem_of_getElem? (i := 49) rfl)))))))))) rfl
set_option maxRecDepth 100000 in
theorem kw_1971 : Cond.instanceMethod yX12_code ∈ xg := xg_in (List.mem_append_right _ (List.mem_append_right _ (List.mem_append_right _ (List.mem_append_right _ (List.mem_append_right _ (List.mem_append_right _ (List.mem_append_right _ (List.mem_append_right _ (List.mem_append_right _ (List.mem_of_getElem? (i := 51) rfl)))))))))) rfl
set_option maxRecDepth 100000 in
theorem kw_1972 : Cond.code yX12_code cX12_code 4 none ∈ xg := xg_in (List.mem_append_right _ (List.mem_append_right _ (List.mem_append_right _ (List.mem_append_right _ (List.mem_append_right _ (List.mem_append_right _ (List.mem_append_right _ (List.mem_append_right _ (List.mem_append_right _ (List.mem_of_getElem? (i := 52) rfl)))))))))) rfl
set_option maxRecDepth 100000 in
theorem kw_1973 : Cond.methodLink RX12 442 yX12_joins ∈ xg := xg_in (List.mem_append_right _ (List.mem_append_right _ (List.mem_append_right _ (List.mem_append_right _ (List.mem_append_right _ (List.mem_append_right _ (List.mem_append_right _ (List.mem_append_right _ (List.mem_append_right _ (List.mem_of_getElem? (i := 53) rfl)))))))))) rfl
set_option maxRecDepth 100000 in
theorem kw_1975 : Cond.instanceMethod yX12_joins ∈ xg := xg_in (List.mem_append_right _ (List.mem_append_right _ (List.mem_append_right _ (List.mem_append_right _ (List.mem_append_right _ (List.mem_append_right _ (List.mem_append_right _ (List.mem_append_right _ (List.mem_append_right _ (List.mem_of_getElem? (i := 55) rfl)))))))))) rfl
set_option maxRecDepth 100000 in
theorem kw_1976 : Cond.code yX12_joins cX12_joins 2 none ∈ xg := xg_in (List.mem_append_right _ (List.mem_append_right _ (List.mem_append_right _ (List.mem_append_right _ (List.mem_append_right _ (List.mem_append_right _ (List.mem_append_right _ (List.mem_append_right _ (List.mem_append_right _ (List.mem_of_getElem? (i := 56) rfl)))))))))) rfl
set_option maxRecDepth 100000 in
theorem kw_1977 : Cond.methodLink RX12 445 yX12_behind ∈ xg := xg_in (List.mem_append_right _ (List.mem_append_right _ (List.mem_append_right _ (List.mem_append_right _ (List.mem_append_right _ (List.mem_append_right _ (List.mem_append_right _ (List.mem_append_right _ (List.mem_append_right _ (List.mem_of_getElem? (i := 57) rfl)))))))))) rfl
set_option maxRecDepth 100000 in
theorem kw_1979 : Cond.instanceMethod yX12_behind ∈ xg := xg_in (List.mem_append_right _ (List.mem_append_right _ (List.mem_append_right _ (List.mem_append_right _ (List.mem_append_right _ (List.mem_append_right _ (List.mem_append_right _ (List.mem_append_right _ (List.mem_append_right _ (List.mem_of_getElem? (i := 59) rfl)))))))))) rfl
set_option maxRecDepth 100000 in
theorem kw_1980 : Cond.code yX12_behind cX12_behind 1 (some .boolean) ∈ xg := xg_in (List.mem_append_right _ (List.mem_append_right _ (List.mem_append_right _ (List.mem_append_right _ (List.mem_append_right _ (List.mem_append_right _ (List.mem_append_right _ (List.mem_append_right _ (List.mem_append_right _ (List.mem_of_getElem? (i := 60) rfl)))))))))) rfl
set_option maxRecDepth 100000 in
theorem kw_1981 : Cond.methodLink RX12 448 yX12_operand ∈ xg := xg_in (List.mem_append_right _ (List.mem_append_right _ (List.mem_append_right _ (List.mem_append_right _ (List.mem_append_right _ (List.mem_append_right _ (List.mem_append_right _ (List.mem_append_right _ (List.mem_append_right _ (List.mem_of_getElem? (i := 61) rfl)))))))))) rfl
set_option maxRecDepth 100000 in
theorem kw_1983 : Cond.instanceMethod yX12_operand ∈ xg := xg_in (List.mem_append_right _ (List.mem_append_right _ (List.mem_append_right _ (List.mem_append_right _ (List.mem_append_right _ (List.mem_append_right _ (List.mem_append_right _ (List.mem_append_right _ (List.mem_append_right _ (List.mem_of_getElem? (i := 63) rfl)))))))))) rfl
set_option maxRecDepth 100000 in
theorem kw_1984 : Cond.code yX12_operand cX12_operand 5 (some .boolean) ∈ xg := xg_in (List.mem_append_right _ (List.mem_append_right _ (List.mem_append_right _ (List.mem_append_right _ (List.mem_append_right _ (List.mem_append_right _ (List.mem_append_right _ (List.mem_append_right _ (List.mem_append_right _ (List.mem_of_getElem? (i := 64) rfl)))))))))) rfl
set_option maxRecDepth 100000 in
theorem kw_1985 : Cond.methodLink RX12 430 yX12_leafOf ∈ xg := xg_in (List.mem_append_right _ (List.mem_append_right _ (List.mem_append_right _ (List.mem_append_right _ (List.mem_append_right _ (List.mem_append_right _ (List.mem_append_right _ (List.mem_append_right _ (List.mem_append_right _ (List.mem_of_getElem? (i := 65) rfl)))))))))) rfl
set_option maxRecDepth 100000 in
theorem kw_1987 : Cond.instanceMethod yX12_leafOf ∈ xg := xg_in (List.mem_append_right _ (List.mem_append_right _ (List.mem_append_right _ (List.mem_append_right _ (List.mem_append_right _ (List.mem_append_right _ (List.mem_append_right _ (List.mem_append_right _ (List.mem_append_right _ (List.mem_of_getElem? (i := 67) rfl)))))))))) rfl
set_option maxRecDepth 100000 in
theorem kw_1988 : Cond.code yX12_leafOf cX12_leafOf 1 (some .int) ∈ xg := xg_in (List.mem_append_right _ (List.mem_append_right _ (List.mem_append_right _ (List.mem_append_right _ (List.mem_append_right _ (List.mem_append_right _ (List.mem_append_right _ (List.mem_append_right _ (List.mem_append_right _ (List.mem_of_getElem? (i := 68) rfl)))))))))) rfl
set_option maxRecDepth 100000 in
theorem kw_1993 : Cond.methodLink RX12 455 yX12_isSaid ∈ xg := xg_in (List.mem_append_right _ (List.mem_append_right _ (List.mem_append_right _ (List.mem_append_right _ (List.mem_append_right _ (List.mem_append_right _ (List.mem_append_right _ (List.mem_append_right _ (List.mem_append_right _ (List.mem_of_getElem? (i := 73) rfl)))))))))) rfl
set_option maxRecDepth 100000 in
theorem kw_1995 : Cond.instanceMethod yX12_isSaid ∈ xg := xg_in (List.mem_append_right _ (List.mem_append_right _ (List.mem_append_right _ (List.mem_append_right _ (List.mem_append_right _ (List.mem_append_right _ (List.mem_append_right _ (List.mem_append_right _ (List.mem_append_right _ (List.mem_of_getElem? (i := 75) rfl)))))))))) rfl
set_option maxRecDepth 100000 in
theorem kw_1996 : Cond.code yX12_isSaid cX12_isSaid 5 (some .boolean) ∈ xg := xg_in (List.mem_append_right _ (List.mem_append_right _ (List.mem_append_right _ (List.mem_append_right _ (List.mem_append_right _ (List.mem_append_right _ (List.mem_append_right _ (List.mem_append_right _ (List.mem_append_right _ (List.mem_of_getElem? (i := 76) rfl)))))))))) rfl
set_option maxRecDepth 100000 in
theorem kw_1997 : Cond.methodLink RX12 451 yX12_isLeaf ∈ xg := xg_in (List.mem_append_right _ (List.mem_append_right _ (List.mem_append_right _ (List.mem_append_right _ (List.mem_append_right _ (List.mem_append_right _ (List.mem_append_right _ (List.mem_append_right _ (List.mem_append_right _ (List.mem_of_getElem? (i := 77) rfl)))))))))) rfl
set_option maxRecDepth 100000 in
theorem kw_1999 : Cond.instanceMethod yX12_isLeaf ∈ xg := xg_in (List.mem_append_right _ (List.mem_append_right _ (List.mem_append_right _ (List.mem_append_right _ (List.mem_append_right _ (List.mem_append_right _ (List.mem_append_right _ (List.mem_append_right _ (List.mem_append_right _ (List.mem_of_getElem? (i := 79) rfl)))))))))) rfl
set_option maxRecDepth 100000 in
theorem kw_2000 : Cond.code yX12_isLeaf cX12_isLeaf 7 (some .boolean) ∈ xg := xg_in (List.mem_append_right _ (List.mem_append_right _ (List.mem_append_right _ (List.mem_append_right _ (List.mem_append_right _ (List.mem_append_right _ (List.mem_append_right _ (List.mem_append_right _ (List.mem_append_right _ (List.mem_of_getElem? (i := 80) rfl)))))))))) rfl
