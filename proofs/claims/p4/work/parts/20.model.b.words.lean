set_option maxRecDepth 100000 in
theorem ks_114 : Cond.selects RX12 yX12_four yX12_four ∈ xg := xg_in (List.mem_append_left _ (List.mem_of_getElem? (i := 114) rfl)) rfl
set_option maxRecDepth 100000 in
theorem ks_115 : Cond.selects RX12 yX12_taken yX12_taken ∈ xg := xg_in (List.mem_append_left _ (List.mem_of_getElem? (i := 115) rfl)) rfl
set_option maxRecDepth 100000 in
theorem ks_116 : Cond.selects RX12 yX12_next yX12_next ∈ xg := xg_in (List.mem_append_left _ (List.mem_of_getElem? (i := 116) rfl)) rfl
set_option maxRecDepth 100000 in
theorem ks_117 : Cond.selects RX12 yX12_peek yX12_peek ∈ xg := xg_in (List.mem_append_left _ (List.mem_of_getElem? (i := 117) rfl)) rfl
set_option maxRecDepth 100000 in
theorem ks_118 : Cond.selects RX12 yX12_line yX12_line ∈ xg := xg_in (List.mem_append_left _ (List.mem_of_getElem? (i := 118) rfl)) rfl
set_option maxRecDepth 100000 in
theorem ks_119 : Cond.selects RX12 yX12_isWord yX12_isWord ∈ xg := xg_in (List.mem_append_left _ (List.mem_of_getElem? (i := 119) rfl)) rfl
set_option maxRecDepth 100000 in
theorem ks_120 : Cond.selects RX12 yX12_bad yX12_bad ∈ xg := xg_in (List.mem_append_left _ (List.mem_of_getElem? (i := 120) rfl)) rfl
set_option maxRecDepth 100000 in
theorem ks_121 : Cond.selects RX12 yX12_fresh yX12_fresh ∈ xg := xg_in (List.mem_append_left _ (List.mem_of_getElem? (i := 121) rfl)) rfl
set_option maxRecDepth 100000 in
theorem ks_122 : Cond.selects RX12 yX12_isName yX12_isName ∈ xg := xg_in (List.mem_append_left _ (List.mem_of_getElem? (i := 122) rfl)) rfl
set_option maxRecDepth 100000 in
theorem ks_123 : Cond.selects RX12 yX12_find yX12_find ∈ xg := xg_in (List.mem_append_left _ (List.mem_of_getElem? (i := 123) rfl)) rfl
set_option maxRecDepth 100000 in
theorem ks_124 : Cond.selects RX12 yX12_puts yX12_puts ∈ xg := xg_in (List.mem_append_left _ (List.mem_of_getElem? (i := 124) rfl)) rfl
set_option maxRecDepth 100000 in
theorem ks_125 : Cond.selects RX12 yX12_takes yX12_takes ∈ xg := xg_in (List.mem_append_left _ (List.mem_of_getElem? (i := 125) rfl)) rfl
set_option maxRecDepth 100000 in
theorem ks_126 : Cond.selects RX12 yX12_readSoul yX12_readSoul ∈ xg := xg_in (List.mem_append_left _ (List.mem_of_getElem? (i := 126) rfl)) rfl
set_option maxRecDepth 100000 in
theorem ks_127 : Cond.selects RX12 yX12_looksAt yX12_looksAt ∈ xg := xg_in (List.mem_append_left _ (List.mem_of_getElem? (i := 127) rfl)) rfl
set_option maxRecDepth 100000 in
theorem ks_128 : Cond.selects RX12 yX12_sign yX12_sign ∈ xg := xg_in (List.mem_append_left _ (List.mem_of_getElem? (i := 128) rfl)) rfl
set_option maxRecDepth 100000 in
theorem ks_129 : Cond.selects RX12 yX12_isSign yX12_isSign ∈ xg := xg_in (List.mem_append_left _ (List.mem_of_getElem? (i := 129) rfl)) rfl
set_option maxRecDepth 100000 in
theorem ks_130 : Cond.selects RX12 yX12_waits yX12_waits ∈ xg := xg_in (List.mem_append_left _ (List.mem_of_getElem? (i := 130) rfl)) rfl
set_option maxRecDepth 100000 in
theorem ks_180 : Cond.selects RX12 yX12_nots yX12_nots ∈ xg := xg_in (List.mem_append_left _ (List.mem_of_getElem? (i := 180) rfl)) rfl
set_option maxRecDepth 100000 in
theorem ks_182 : Cond.selects RX12 yX12_joins yX12_joins ∈ xg := xg_in (List.mem_append_left _ (List.mem_of_getElem? (i := 182) rfl)) rfl
set_option maxRecDepth 100000 in
theorem ks_183 : Cond.selects RX12 yX12_behind yX12_behind ∈ xg := xg_in (List.mem_append_left _ (List.mem_of_getElem? (i := 183) rfl)) rfl
set_option maxRecDepth 100000 in
theorem ks_184 : Cond.selects RX12 yX12_operand yX12_operand ∈ xg := xg_in (List.mem_append_left _ (List.mem_of_getElem? (i := 184) rfl)) rfl
set_option maxRecDepth 100000 in
theorem kw_1362 : Cond.methodLink RX12 10 yX12_four ∈ xg := xg_in (List.mem_append_right _ (List.mem_append_right _ (List.mem_append_right _ (List.mem_append_right _ (List.mem_append_right _ (List.mem_append_right _ (List.mem_append_left _ (List.mem_of_getElem? (i := 162) rfl)))))))) rfl
set_option maxRecDepth 100000 in
theorem kw_1364 : Cond.instanceMethod yX12_four ∈ xg := xg_in (List.mem_append_right _ (List.mem_append_right _ (List.mem_append_right _ (List.mem_append_right _ (List.mem_append_right _ (List.mem_append_right _ (List.mem_append_left _ (List.mem_of_getElem? (i := 164) rfl)))))))) rfl
set_option maxRecDepth 100000 in
theorem kw_1366 : Cond.code yX12_four cX12_four 3 none ∈ xg := xg_in (List.mem_append_right _ (List.mem_append_right _ (List.mem_append_right _ (List.mem_append_right _ (List.mem_append_right _ (List.mem_append_right _ (List.mem_append_left _ (List.mem_of_getElem? (i := 166) rfl)))))))) rfl
set_option maxRecDepth 100000 in
theorem kw_1376 : Cond.constantLong RX12 81 (1851878757) ∈ xg := xg_in (List.mem_append_right _ (List.mem_append_right _ (List.mem_append_right _ (List.mem_append_right _ (List.mem_append_right _ (List.mem_append_right _ (List.mem_append_left _ (List.mem_of_getElem? (i := 176) rfl)))))))) rfl
set_option maxRecDepth 100000 in
theorem kw_1377 : Cond.constantLong RX12 83 (1684365940) ∈ xg := xg_in (List.mem_append_right _ (List.mem_append_right _ (List.mem_append_right _ (List.mem_append_right _ (List.mem_append_right _ (List.mem_append_right _ (List.mem_append_left _ (List.mem_of_getElem? (i := 177) rfl)))))))) rfl
set_option maxRecDepth 100000 in
theorem kw_1378 : Cond.constantLong RX12 85 (439787549556) ∈ xg := xg_in (List.mem_append_right _ (List.mem_append_right _ (List.mem_append_right _ (List.mem_append_right _ (List.mem_append_right _ (List.mem_append_right _ (List.mem_append_left _ (List.mem_of_getElem? (i := 178) rfl)))))))) rfl
set_option maxRecDepth 100000 in
theorem kw_1379 : Cond.constantLong RX12 87 (1936684396) ∈ xg := xg_in (List.mem_append_right _ (List.mem_append_right _ (List.mem_append_right _ (List.mem_append_right _ (List.mem_append_right _ (List.mem_append_right _ (List.mem_append_left _ (List.mem_of_getElem? (i := 179) rfl)))))))) rfl
set_option maxRecDepth 100000 in
theorem kw_1380 : Cond.constantLong RX12 89 (109270082020708) ∈ xg := xg_in (List.mem_append_right _ (List.mem_append_right _ (List.mem_append_right _ (List.mem_append_right _ (List.mem_append_right _ (List.mem_append_right _ (List.mem_append_left _ (List.mem_of_getElem? (i := 180) rfl)))))))) rfl
set_option maxRecDepth 100000 in
theorem kw_1381 : Cond.constantLong RX12 91 (2003399528) ∈ xg := xg_in (List.mem_append_right _ (List.mem_append_right _ (List.mem_append_right _ (List.mem_append_right _ (List.mem_append_right _ (List.mem_append_right _ (List.mem_append_left _ (List.mem_of_getElem? (i := 181) rfl)))))))) rfl
set_option maxRecDepth 100000 in
theorem kw_1382 : Cond.constantLong RX12 93 (512970880104) ∈ xg := xg_in (List.mem_append_right _ (List.mem_append_right _ (List.mem_append_right _ (List.mem_append_right _ (List.mem_append_right _ (List.mem_append_right _ (List.mem_append_left _ (List.mem_of_getElem? (i := 182) rfl)))))))) rfl
set_option maxRecDepth 100000 in
theorem kw_1383 : Cond.constantLong RX12 95 (7302244) ∈ xg := xg_in (List.mem_append_right _ (List.mem_append_right _ (List.mem_append_right _ (List.mem_append_right _ (List.mem_append_right _ (List.mem_append_right _ (List.mem_append_left _ (List.mem_of_getElem? (i := 183) rfl)))))))) rfl
set_option maxRecDepth 100000 in
theorem kw_1384 : Cond.constantLong RX12 97 (499850634611) ∈ xg := xg_in (List.mem_append_right _ (List.mem_append_right _ (List.mem_append_right _ (List.mem_append_right _ (List.mem_append_right _ (List.mem_append_right _ (List.mem_append_left _ (List.mem_of_getElem? (i := 184) rfl)))))))) rfl
set_option maxRecDepth 100000 in
theorem kw_1385 : Cond.constantLong RX12 99 (495924113523) ∈ xg := xg_in (List.mem_append_right _ (List.mem_append_right _ (List.mem_append_right _ (List.mem_append_right _ (List.mem_append_right _ (List.mem_append_right _ (List.mem_append_left _ (List.mem_of_getElem? (i := 185) rfl)))))))) rfl
set_option maxRecDepth 100000 in
theorem kw_1386 : Cond.constantLong RX12 101 (495622843507) ∈ xg := xg_in (List.mem_append_right _ (List.mem_append_right _ (List.mem_append_right _ (List.mem_append_right _ (List.mem_append_right _ (List.mem_append_right _ (List.mem_append_left _ (List.mem_of_getElem? (i := 186) rfl)))))))) rfl
set_option maxRecDepth 100000 in
theorem kw_1387 : Cond.constantLong RX12 103 (1684628851) ∈ xg := xg_in (List.mem_append_right _ (List.mem_append_right _ (List.mem_append_right _ (List.mem_append_right _ (List.mem_append_right _ (List.mem_append_right _ (List.mem_append_left _ (List.mem_of_getElem? (i := 187) rfl)))))))) rfl
set_option maxRecDepth 100000 in
theorem kw_1388 : Cond.constantLong RX12 105 (448311224179) ∈ xg := xg_in (List.mem_append_right _ (List.mem_append_right _ (List.mem_append_right _ (List.mem_append_right _ (List.mem_append_right _ (List.mem_append_right _ (List.mem_append_left _ (List.mem_of_getElem? (i := 188) rfl)))))))) rfl
set_option maxRecDepth 100000 in
theorem kw_1389 : Cond.constantLong RX12 107 (439905248627) ∈ xg := xg_in (List.mem_append_right _ (List.mem_append_right _ (List.mem_append_right _ (List.mem_append_right _ (List.mem_append_right _ (List.mem_append_right _ (List.mem_append_left _ (List.mem_of_getElem? (i := 189) rfl)))))))) rfl
set_option maxRecDepth 100000 in
theorem kw_1390 : Cond.constantLong RX12 109 (1885436275) ∈ xg := xg_in (List.mem_append_right _ (List.mem_append_right _ (List.mem_append_right _ (List.mem_append_right _ (List.mem_append_right _ (List.mem_append_right _ (List.mem_append_left _ (List.mem_of_getElem? (i := 190) rfl)))))))) rfl
set_option maxRecDepth 100000 in
theorem kw_1391 : Cond.constantLong RX12 111 (120325360869753) ∈ xg := xg_in (List.mem_append_right _ (List.mem_append_right _ (List.mem_append_right _ (List.mem_append_right _ (List.mem_append_right _ (List.mem_append_right _ (List.mem_append_left _ (List.mem_of_getElem? (i := 191) rfl)))))))) rfl
set_option maxRecDepth 100000 in
theorem kw_1392 : Cond.constantLong RX12 113 (28530) ∈ xg := xg_in (List.mem_append_right _ (List.mem_append_right _ (List.mem_append_right _ (List.mem_append_right _ (List.mem_append_right _ (List.mem_append_right _ (List.mem_append_left _ (List.mem_of_getElem? (i := 192) rfl)))))))) rfl
set_option maxRecDepth 100000 in
theorem kw_1393 : Cond.constantLong RX12 115 (6385252) ∈ xg := xg_in (List.mem_append_right _ (List.mem_append_right _ (List.mem_append_right _ (List.mem_append_right _ (List.mem_append_right _ (List.mem_append_right _ (List.mem_append_left _ (List.mem_of_getElem? (i := 193) rfl)))))))) rfl
set_option maxRecDepth 100000 in
theorem kw_1394 : Cond.constantLong RX12 117 (7237492) ∈ xg := xg_in (List.mem_append_right _ (List.mem_append_right _ (List.mem_append_right _ (List.mem_append_right _ (List.mem_append_right _ (List.mem_append_right _ (List.mem_append_left _ (List.mem_of_getElem? (i := 194) rfl)))))))) rfl
set_option maxRecDepth 100000 in
theorem kw_1395 : Cond.constantLong RX12 119 (418430678629) ∈ xg := xg_in (List.mem_append_right _ (List.mem_append_right _ (List.mem_append_right _ (List.mem_append_right _ (List.mem_append_right _ (List.mem_append_right _ (List.mem_append_left _ (List.mem_of_getElem? (i := 195) rfl)))))))) rfl
set_option maxRecDepth 100000 in
theorem kw_1396 : Cond.constantLong RX12 121 (512735409267) ∈ xg := xg_in (List.mem_append_right _ (List.mem_append_right _ (List.mem_append_right _ (List.mem_append_right _ (List.mem_append_right _ (List.mem_append_right _ (List.mem_append_left _ (List.mem_of_getElem? (i := 196) rfl)))))))) rfl
set_option maxRecDepth 100000 in
theorem kw_1397 : Cond.constantLong RX12 123 (1718379876) ∈ xg := xg_in (List.mem_append_right _ (List.mem_append_right _ (List.mem_append_right _ (List.mem_append_right _ (List.mem_append_right _ (List.mem_append_right _ (List.mem_append_left _ (List.mem_of_getElem? (i := 197) rfl)))))))) rfl
set_option maxRecDepth 100000 in
theorem kw_1398 : Cond.constantLong RX12 125 (1735156068) ∈ xg := xg_in (List.mem_append_right _ (List.mem_append_right _ (List.mem_append_right _ (List.mem_append_right _ (List.mem_append_right _ (List.mem_append_right _ (List.mem_append_left _ (List.mem_of_getElem? (i := 198) rfl)))))))) rfl
set_option maxRecDepth 100000 in
theorem kw_1399 : Cond.constantLong RX12 127 (483006772069) ∈ xg := xg_in (List.mem_append_right _ (List.mem_append_right _ (List.mem_append_right _ (List.mem_append_right _ (List.mem_append_right _ (List.mem_append_right _ (List.mem_append_left _ (List.mem_of_getElem? (i := 199) rfl)))))))) rfl
set_option maxRecDepth 100000 in
theorem kw_1400 : Cond.constantLong RX12 129 (1870095731) ∈ xg := xg_in (List.mem_append_right _ (List.mem_append_right _ (List.mem_append_right _ (List.mem_append_right _ (List.mem_append_right _ (List.mem_append_right _ (List.mem_append_left _ (List.mem_of_getElem? (i := 200) rfl)))))))) rfl
set_option maxRecDepth 100000 in
theorem kw_1401 : Cond.constantLong RX12 131 (112585612686451) ∈ xg := xg_in (List.mem_append_right _ (List.mem_append_right _ (List.mem_append_right _ (List.mem_append_right _ (List.mem_append_right _ (List.mem_append_right _ (List.mem_append_left _ (List.mem_of_getElem? (i := 201) rfl)))))))) rfl
set_option maxRecDepth 100000 in
theorem kw_1402 : Cond.constantLong RX12 133 (121450625394034) ∈ xg := xg_in (List.mem_append_right _ (List.mem_append_right _ (List.mem_append_right _ (List.mem_append_right _ (List.mem_append_right _ (List.mem_append_right _ (List.mem_append_left _ (List.mem_of_getElem? (i := 202) rfl)))))))) rfl
set_option maxRecDepth 100000 in
theorem kw_1403 : Cond.fieldLink RX12 1 RX12 "thrown" "I" ∈ xg := xg_in (List.mem_append_right _ (List.mem_append_right _ (List.mem_append_right _ (List.mem_append_right _ (List.mem_append_right _ (List.mem_append_right _ (List.mem_append_left _ (List.mem_of_getElem? (i := 203) rfl)))))))) rfl
set_option maxRecDepth 100000 in
theorem kw_1404 : Cond.fieldLink RX12 14 RX12 "tape" "[B" ∈ xg := xg_in (List.mem_append_right _ (List.mem_append_right _ (List.mem_append_right _ (List.mem_append_right _ (List.mem_append_right _ (List.mem_append_right _ (List.mem_append_left _ (List.mem_of_getElem? (i := 204) rfl)))))))) rfl
set_option maxRecDepth 100000 in
theorem kw_1405 : Cond.fieldLink RX12 7 RX12 "length" "I" ∈ xg := xg_in (List.mem_append_right _ (List.mem_append_right _ (List.mem_append_right _ (List.mem_append_right _ (List.mem_append_right _ (List.mem_append_right _ (List.mem_append_left _ (List.mem_of_getElem? (i := 205) rfl)))))))) rfl
set_option maxRecDepth 100000 in
theorem kw_1406 : Cond.fieldLink RX12 18 RX12 "size" "I" ∈ xg := xg_in (List.mem_append_right _ (List.mem_append_right _ (List.mem_append_right _ (List.mem_append_right _ (List.mem_append_right _ (List.mem_append_right _ (List.mem_append_left _ (List.mem_of_getElem? (i := 206) rfl)))))))) rfl
set_option maxRecDepth 100000 in
theorem kw_1407 : Cond.fieldLink RX12 21 RX12 "p" "I" ∈ xg := xg_in (List.mem_append_right _ (List.mem_append_right _ (List.mem_append_right _ (List.mem_append_right _ (List.mem_append_right _ (List.mem_append_right _ (List.mem_append_left _ (List.mem_of_getElem? (i := 207) rfl)))))))) rfl
set_option maxRecDepth 100000 in
theorem kw_1408 : Cond.fieldLink RX12 24 RX12 "limit" "I" ∈ xg := xg_in (List.mem_append_right _ (List.mem_append_right _ (List.mem_append_right _ (List.mem_append_right _ (List.mem_append_right _ (List.mem_append_right _ (List.mem_append_left _ (List.mem_of_getElem? (i := 208) rfl)))))))) rfl
set_option maxRecDepth 100000 in
theorem kw_1409 : Cond.fieldLink RX12 33 RX12 "s" "[I" ∈ xg := xg_in (List.mem_append_right _ (List.mem_append_right _ (List.mem_append_right _ (List.mem_append_right _ (List.mem_append_right _ (List.mem_append_right _ (List.mem_append_left _ (List.mem_of_getElem? (i := 209) rfl)))))))) rfl
set_option maxRecDepth 100000 in
theorem kw_1410 : Cond.fieldLink RX12 37 RX12 "h" "[I" ∈ xg := xg_in (List.mem_append_right _ (List.mem_append_right _ (List.mem_append_right _ (List.mem_append_right _ (List.mem_append_right _ (List.mem_append_right _ (List.mem_append_left _ (List.mem_of_getElem? (i := 210) rfl)))))))) rfl
set_option maxRecDepth 100000 in
theorem kw_1411 : Cond.fieldLink RX12 40 RX12 "read" "[I" ∈ xg := xg_in (List.mem_append_right _ (List.mem_append_right _ (List.mem_append_right _ (List.mem_append_right _ (List.mem_append_right _ (List.mem_append_right _ (List.mem_append_left _ (List.mem_of_getElem? (i := 211) rfl)))))))) rfl
set_option maxRecDepth 100000 in
theorem kw_1412 : Cond.fieldLink RX12 43 RX12 "names" "[J" ∈ xg := xg_in (List.mem_append_right _ (List.mem_append_right _ (List.mem_append_right _ (List.mem_append_right _ (List.mem_append_right _ (List.mem_append_right _ (List.mem_append_left _ (List.mem_of_getElem? (i := 212) rfl)))))))) rfl
set_option maxRecDepth 100000 in
theorem kw_1413 : Cond.fieldLink RX12 47 RX12 "reserved" "[J" ∈ xg := xg_in (List.mem_append_right _ (List.mem_append_right _ (List.mem_append_right _ (List.mem_append_right _ (List.mem_append_right _ (List.mem_append_right _ (List.mem_append_left _ (List.mem_of_getElem? (i := 213) rfl)))))))) rfl
set_option maxRecDepth 100000 in
theorem kw_1414 : Cond.fieldLink RX12 145 RX12 "token" "I" ∈ xg := xg_in (List.mem_append_right _ (List.mem_append_right _ (List.mem_append_right _ (List.mem_append_right _ (List.mem_append_right _ (List.mem_append_right _ (List.mem_append_left _ (List.mem_of_getElem? (i := 214) rfl)))))))) rfl
set_option maxRecDepth 100000 in
theorem kw_1415 : Cond.fieldLink RX12 139 RX12 "at" "I" ∈ xg := xg_in (List.mem_append_right _ (List.mem_append_right _ (List.mem_append_right _ (List.mem_append_right _ (List.mem_append_right _ (List.mem_append_right _ (List.mem_append_left _ (List.mem_of_getElem? (i := 215) rfl)))))))) rfl
set_option maxRecDepth 100000 in
theorem kw_1416 : Cond.fieldLink RX12 142 RX12 "span" "I" ∈ xg := xg_in (List.mem_append_right _ (List.mem_append_right _ (List.mem_append_right _ (List.mem_append_right _ (List.mem_append_right _ (List.mem_append_right _ (List.mem_append_left _ (List.mem_of_getElem? (i := 216) rfl)))))))) rfl
set_option maxRecDepth 100000 in
theorem kw_1417 : Cond.fieldLink RX12 155 RX12 "number" "I" ∈ xg := xg_in (List.mem_append_right _ (List.mem_append_right _ (List.mem_append_right _ (List.mem_append_right _ (List.mem_append_right _ (List.mem_append_right _ (List.mem_append_left _ (List.mem_of_getElem? (i := 217) rfl)))))))) rfl
set_option maxRecDepth 100000 in
theorem kw_1418 : Cond.fieldLink RX12 162 RX12 "fault" "I" ∈ xg := xg_in (List.mem_append_right _ (List.mem_append_right _ (List.mem_append_right _ (List.mem_append_right _ (List.mem_append_right _ (List.mem_append_right _ (List.mem_append_left _ (List.mem_of_getElem? (i := 218) rfl)))))))) rfl
set_option maxRecDepth 100000 in
theorem kw_1419 : Cond.fieldLink RX12 165 RX12 "faultAt" "I" ∈ xg := xg_in (List.mem_append_right _ (List.mem_append_right _ (List.mem_append_right _ (List.mem_append_right _ (List.mem_append_right _ (List.mem_append_right _ (List.mem_append_left _ (List.mem_of_getElem? (i := 219) rfl)))))))) rfl
set_option maxRecDepth 100000 in
theorem kw_1420 : Cond.fieldLink RX12 158 RX12 "word" "J" ∈ xg := xg_in (List.mem_append_right _ (List.mem_append_right _ (List.mem_append_right _ (List.mem_append_right _ (List.mem_append_right _ (List.mem_append_right _ (List.mem_append_left _ (List.mem_of_getElem? (i := 220) rfl)))))))) rfl
set_option maxRecDepth 100000 in
theorem kw_1421 : Cond.fieldLink RX12 181 RX12 "got" "I" ∈ xg := xg_in (List.mem_append_right _ (List.mem_append_right _ (List.mem_append_right _ (List.mem_append_right _ (List.mem_append_right _ (List.mem_append_right _ (List.mem_append_left _ (List.mem_of_getElem? (i := 221) rfl)))))))) rfl
set_option maxRecDepth 100000 in
theorem kw_1422 : Cond.fieldLink RX12 221 RX12 "lines" "I" ∈ xg := xg_in (List.mem_append_right _ (List.mem_append_right _ (List.mem_append_right _ (List.mem_append_right _ (List.mem_append_right _ (List.mem_append_right _ (List.mem_append_left _ (List.mem_of_getElem? (i := 222) rfl)))))))) rfl
set_option maxRecDepth 100000 in
theorem kw_1423 : Cond.fieldLink RX12 212 RX12 "onces" "I" ∈ xg := xg_in (List.mem_append_right _ (List.mem_append_right _ (List.mem_append_right _ (List.mem_append_right _ (List.mem_append_right _ (List.mem_append_right _ (List.mem_append_left _ (List.mem_of_getElem? (i := 223) rfl)))))))) rfl
set_option maxRecDepth 100000 in
theorem kw_1424 : Cond.fieldLink RX12 50 RX12 "undone" "[I" ∈ xg := xg_in (List.mem_append_right _ (List.mem_append_right _ (List.mem_append_right _ (List.mem_append_right _ (List.mem_append_right _ (List.mem_append_right _ (List.mem_append_left _ (List.mem_of_getElem? (i := 224) rfl)))))))) rfl
set_option maxRecDepth 100000 in
theorem kw_1425 : Cond.fieldLink RX12 53 RX12 "before" "[I" ∈ xg := xg_in (List.mem_append_right _ (List.mem_append_right _ (List.mem_append_right _ (List.mem_append_right _ (List.mem_append_right _ (List.mem_append_right _ (List.mem_append_left _ (List.mem_of_getElem? (i := 225) rfl)))))))) rfl
set_option maxRecDepth 100000 in
theorem kw_1426 : Cond.fieldLink RX12 233 RX12 "undoMany" "I" ∈ xg := xg_in (List.mem_append_right _ (List.mem_append_right _ (List.mem_append_right _ (List.mem_append_right _ (List.mem_append_right _ (List.mem_append_right _ (List.mem_append_left _ (List.mem_of_getElem? (i := 226) rfl)))))))) rfl
set_option maxRecDepth 100000 in
theorem kw_1427 : Cond.fieldLink RX12 56 RX12 "with" "[I" ∈ xg := xg_in (List.mem_append_right _ (List.mem_append_right _ (List.mem_append_right _ (List.mem_append_right _ (List.mem_append_right _ (List.mem_append_right _ (List.mem_append_left _ (List.mem_of_getElem? (i := 227) rfl)))))))) rfl
set_option maxRecDepth 100000 in
theorem kw_1428 : Cond.fieldLink RX12 59 RX12 "withSouls" "I" ∈ xg := xg_in (List.mem_append_right _ (List.mem_append_right _ (List.mem_append_right _ (List.mem_append_right _ (List.mem_append_right _ (List.mem_append_right _ (List.mem_append_left _ (List.mem_of_getElem? (i := 228) rfl)))))))) rfl
set_option maxRecDepth 100000 in
theorem kw_1435 : Cond.fieldLink RX12 62 RX12 "rolledAt" "[I" ∈ xg := xg_in (List.mem_append_right _ (List.mem_append_right _ (List.mem_append_right _ (List.mem_append_right _ (List.mem_append_right _ (List.mem_append_right _ (List.mem_append_left _ (List.mem_of_getElem? (i := 235) rfl)))))))) rfl
set_option maxRecDepth 100000 in
theorem kw_1437 : Cond.fieldLink RX12 65 RX12 "stack" "[I" ∈ xg := xg_in (List.mem_append_right _ (List.mem_append_right _ (List.mem_append_right _ (List.mem_append_right _ (List.mem_append_right _ (List.mem_append_right _ (List.mem_append_left _ (List.mem_of_getElem? (i := 237) rfl)))))))) rfl
set_option maxRecDepth 100000 in
theorem kw_1438 : Cond.fieldLink RX12 418 RX12 "codes" "I" ∈ xg := xg_in (List.mem_append_right _ (List.mem_append_right _ (List.mem_append_right _ (List.mem_append_right _ (List.mem_append_right _ (List.mem_append_right _ (List.mem_append_left _ (List.mem_of_getElem? (i := 238) rfl)))))))) rfl
set_option maxRecDepth 100000 in
theorem kw_1439 : Cond.fieldLink RX12 433 RX12 "ones" "I" ∈ xg := xg_in (List.mem_append_right _ (List.mem_append_right _ (List.mem_append_right _ (List.mem_append_right _ (List.mem_append_right _ (List.mem_append_right _ (List.mem_append_left _ (List.mem_of_getElem? (i := 239) rfl)))))))) rfl
set_option maxRecDepth 100000 in
theorem kw_1440 : Cond.fieldLink RX12 421 RX12 "top" "I" ∈ xg := xg_in (List.mem_append_right _ (List.mem_append_right _ (List.mem_append_right _ (List.mem_append_right _ (List.mem_append_right _ (List.mem_append_right _ (List.mem_append_right _ (List.mem_append_left _ (List.mem_of_getElem? (i := 0) rfl))))))))) rfl
set_option maxRecDepth 100000 in
theorem kw_1441 : Cond.fieldLink RX12 427 RX12 "deep" "I" ∈ xg := xg_in (List.mem_append_right _ (List.mem_append_right _ (List.mem_append_right _ (List.mem_append_right _ (List.mem_append_right _ (List.mem_append_right _ (List.mem_append_right _ (List.mem_append_left _ (List.mem_of_getElem? (i := 1) rfl))))))))) rfl
set_option maxRecDepth 100000 in
theorem kw_1442 : Cond.fieldLink RX12 436 RX12 "isWhole" "Z" ∈ xg := xg_in (List.mem_append_right _ (List.mem_append_right _ (List.mem_append_right _ (List.mem_append_right _ (List.mem_append_right _ (List.mem_append_right _ (List.mem_append_right _ (List.mem_append_left _ (List.mem_of_getElem? (i := 2) rfl))))))))) rfl
set_option maxRecDepth 100000 in
theorem kw_1443 : Cond.fieldLink RX12 68 RX12 "truths" "[Z" ∈ xg := xg_in (List.mem_append_right _ (List.mem_append_right _ (List.mem_append_right _ (List.mem_append_right _ (List.mem_append_right _ (List.mem_append_right _ (List.mem_append_right _ (List.mem_append_left _ (List.mem_of_getElem? (i := 3) rfl))))))))) rfl
set_option maxRecDepth 100000 in
theorem kw_1444 : Cond.fieldLink RX12 72 RX12 "kept" "[I" ∈ xg := xg_in (List.mem_append_right _ (List.mem_append_right _ (List.mem_append_right _ (List.mem_append_right _ (List.mem_append_right _ (List.mem_append_right _ (List.mem_append_right _ (List.mem_append_left _ (List.mem_of_getElem? (i := 4) rfl))))))))) rfl
set_option maxRecDepth 100000 in
theorem kw_1445 : Cond.fieldLink RX12 75 RX12 "namesKept" "[J" ∈ xg := xg_in (List.mem_append_right _ (List.mem_append_right _ (List.mem_append_right _ (List.mem_append_right _ (List.mem_append_right _ (List.mem_append_right _ (List.mem_append_right _ (List.mem_append_left _ (List.mem_of_getElem? (i := 5) rfl))))))))) rfl
set_option maxRecDepth 100000 in
theorem kw_1446 : Cond.fieldLink RX12 78 RX12 "areKept" "[Z" ∈ xg := xg_in (List.mem_append_right _ (List.mem_append_right _ (List.mem_append_right _ (List.mem_append_right _ (List.mem_append_right _ (List.mem_append_right _ (List.mem_append_right _ (List.mem_append_left _ (List.mem_of_getElem? (i := 6) rfl))))))))) rfl
set_option maxRecDepth 100000 in
theorem kw_1541 : Cond.methodLink RX12 218 yX12_taken ∈ xg := xg_in (List.mem_append_right _ (List.mem_append_right _ (List.mem_append_right _ (List.mem_append_right _ (List.mem_append_right _ (List.mem_append_right _ (List.mem_append_right _ (List.mem_append_left _ (List.mem_of_getElem? (i := 101) rfl))))))))) rfl
set_option maxRecDepth 100000 in
theorem kw_1543 : Cond.instanceMethod yX12_taken ∈ xg := xg_in (List.mem_append_right _ (List.mem_append_right _ (List.mem_append_right _ (List.mem_append_right _ (List.mem_append_right _ (List.mem_append_right _ (List.mem_append_right _ (List.mem_append_left _ (List.mem_of_getElem? (i := 103) rfl))))))))) rfl
set_option maxRecDepth 100000 in
theorem kw_1544 : Cond.code yX12_taken cX12_taken 2 none ∈ xg := xg_in (List.mem_append_right _ (List.mem_append_right _ (List.mem_append_right _ (List.mem_append_right _ (List.mem_append_right _ (List.mem_append_right _ (List.mem_append_right _ (List.mem_append_left _ (List.mem_of_getElem? (i := 104) rfl))))))))) rfl
set_option maxRecDepth 100000 in
theorem kw_1545 : Cond.methodLink RX12 174 yX12_next ∈ xg := xg_in (List.mem_append_right _ (List.mem_append_right _ (List.mem_append_right _ (List.mem_append_right _ (List.mem_append_right _ (List.mem_append_right _ (List.mem_append_right _ (List.mem_append_left _ (List.mem_of_getElem? (i := 105) rfl))))))))) rfl
set_option maxRecDepth 100000 in
theorem kw_1547 : Cond.instanceMethod yX12_next ∈ xg := xg_in (List.mem_append_right _ (List.mem_append_right _ (List.mem_append_right _ (List.mem_append_right _ (List.mem_append_right _ (List.mem_append_right _ (List.mem_append_right _ (List.mem_append_left _ (List.mem_of_getElem? (i := 107) rfl))))))))) rfl
set_option maxRecDepth 100000 in
theorem kw_1548 : Cond.code yX12_next cX12_next 4 none ∈ xg := xg_in (List.mem_append_right _ (List.mem_append_right _ (List.mem_append_right _ (List.mem_append_right _ (List.mem_append_right _ (List.mem_append_right _ (List.mem_append_right _ (List.mem_append_left _ (List.mem_of_getElem? (i := 108) rfl))))))))) rfl
set_option maxRecDepth 100000 in
theorem kw_1549 : Cond.methodLink RX12 135 yX12_peek ∈ xg := xg_in (List.mem_append_right _ (List.mem_append_right _ (List.mem_append_right _ (List.mem_append_right _ (List.mem_append_right _ (List.mem_append_right _ (List.mem_append_right _ (List.mem_append_left _ (List.mem_of_getElem? (i := 109) rfl))))))))) rfl
set_option maxRecDepth 100000 in
theorem kw_1551 : Cond.instanceMethod yX12_peek ∈ xg := xg_in (List.mem_append_right _ (List.mem_append_right _ (List.mem_append_right _ (List.mem_append_right _ (List.mem_append_right _ (List.mem_append_right _ (List.mem_append_right _ (List.mem_append_left _ (List.mem_of_getElem? (i := 111) rfl))))))))) rfl
set_option maxRecDepth 100000 in
theorem kw_1552 : Cond.code yX12_peek cX12_peek 1 (some .int) ∈ xg := xg_in (List.mem_append_right _ (List.mem_append_right _ (List.mem_append_right _ (List.mem_append_right _ (List.mem_append_right _ (List.mem_append_right _ (List.mem_append_right _ (List.mem_append_left _ (List.mem_of_getElem? (i := 112) rfl))))))))) rfl
set_option maxRecDepth 100000 in
theorem kw_1553 : Cond.methodLink RX12 148 yX12_isSmall ∈ xg := xg_in (List.mem_append_right _ (List.mem_append_right _ (List.mem_append_right _ (List.mem_append_right _ (List.mem_append_right _ (List.mem_append_right _ (List.mem_append_right _ (List.mem_append_left _ (List.mem_of_getElem? (i := 113) rfl))))))))) rfl
set_option maxRecDepth 100000 in
theorem kw_1554 : Cond.static yX12_isSmall ∈ xg := xg_in (List.mem_append_right _ (List.mem_append_right _ (List.mem_append_right _ (List.mem_append_right _ (List.mem_append_right _ (List.mem_append_right _ (List.mem_append_right _ (List.mem_append_left _ (List.mem_of_getElem? (i := 114) rfl))))))))) rfl
set_option maxRecDepth 100000 in
theorem kw_1555 : Cond.code yX12_isSmall cX12_isSmall 1 (some .boolean) ∈ xg := xg_in (List.mem_append_right _ (List.mem_append_right _ (List.mem_append_right _ (List.mem_append_right _ (List.mem_append_right _ (List.mem_append_right _ (List.mem_append_right _ (List.mem_append_left _ (List.mem_of_getElem? (i := 115) rfl))))))))) rfl
set_option maxRecDepth 100000 in
theorem kw_1556 : Cond.methodLink RX12 152 yX12_isDigit ∈ xg := xg_in (List.mem_append_right _ (List.mem_append_right _ (List.mem_append_right _ (List.mem_append_right _ (List.mem_append_right _ (List.mem_append_right _ (List.mem_append_right _ (List.mem_append_left _ (List.mem_of_getElem? (i := 116) rfl))))))))) rfl
set_option maxRecDepth 100000 in
theorem kw_1557 : Cond.static yX12_isDigit ∈ xg := xg_in (List.mem_append_right _ (List.mem_append_right _ (List.mem_append_right _ (List.mem_append_right _ (List.mem_append_right _ (List.mem_append_right _ (List.mem_append_right _ (List.mem_append_left _ (List.mem_of_getElem? (i := 117) rfl))))))))) rfl
set_option maxRecDepth 100000 in
theorem kw_1558 : Cond.code yX12_isDigit cX12_isDigit 1 (some .boolean) ∈ xg := xg_in (List.mem_append_right _ (List.mem_append_right _ (List.mem_append_right _ (List.mem_append_right _ (List.mem_append_right _ (List.mem_append_right _ (List.mem_append_right _ (List.mem_append_left _ (List.mem_of_getElem? (i := 118) rfl))))))))) rfl
set_option maxRecDepth 100000 in
theorem kw_1559 : Cond.methodLink RX12 224 yX12_line ∈ xg := xg_in (List.mem_append_right _ (List.mem_append_right _ (List.mem_append_right _ (List.mem_append_right _ (List.mem_append_right _ (List.mem_append_right _ (List.mem_append_right _ (List.mem_append_left _ (List.mem_of_getElem? (i := 119) rfl))))))))) rfl
set_option maxRecDepth 100000 in
theorem kw_1561 : Cond.instanceMethod yX12_line ∈ xg := xg_in (List.mem_append_right _ (List.mem_append_right _ (List.mem_append_right _ (List.mem_append_right _ (List.mem_append_right _ (List.mem_append_right _ (List.mem_append_right _ (List.mem_append_left _ (List.mem_of_getElem? (i := 121) rfl))))))))) rfl
set_option maxRecDepth 100000 in
theorem kw_1562 : Cond.code yX12_line cX12_line 5 (some .boolean) ∈ xg := xg_in (List.mem_append_right _ (List.mem_append_right _ (List.mem_append_right _ (List.mem_append_right _ (List.mem_append_right _ (List.mem_append_right _ (List.mem_append_right _ (List.mem_append_left _ (List.mem_of_getElem? (i := 122) rfl))))))))) rfl
set_option maxRecDepth 100000 in
theorem kw_1563 : Cond.methodLink RX12 196 yX12_isWord ∈ xg := xg_in (List.mem_append_right _ (List.mem_append_right _ (List.mem_append_right _ (List.mem_append_right _ (List.mem_append_right _ (List.mem_append_right _ (List.mem_append_right _ (List.mem_append_left _ (List.mem_of_getElem? (i := 123) rfl))))))))) rfl
set_option maxRecDepth 100000 in
theorem kw_1565 : Cond.instanceMethod yX12_isWord ∈ xg := xg_in (List.mem_append_right _ (List.mem_append_right _ (List.mem_append_right _ (List.mem_append_right _ (List.mem_append_right _ (List.mem_append_right _ (List.mem_append_right _ (List.mem_append_left _ (List.mem_of_getElem? (i := 125) rfl))))))))) rfl
set_option maxRecDepth 100000 in
theorem kw_1566 : Cond.code yX12_isWord cX12_isWord 3 (some .boolean) ∈ xg := xg_in (List.mem_append_right _ (List.mem_append_right _ (List.mem_append_right _ (List.mem_append_right _ (List.mem_append_right _ (List.mem_append_right _ (List.mem_append_right _ (List.mem_append_left _ (List.mem_of_getElem? (i := 126) rfl))))))))) rfl
set_option maxRecDepth 100000 in
theorem kw_1567 : Cond.methodLink RX12 171 yX12_bad ∈ xg := xg_in (List.mem_append_right _ (List.mem_append_right _ (List.mem_append_right _ (List.mem_append_right _ (List.mem_append_right _ (List.mem_append_right _ (List.mem_append_right _ (List.mem_append_left _ (List.mem_of_getElem? (i := 127) rfl))))))))) rfl
set_option maxRecDepth 100000 in
theorem kw_1569 : Cond.instanceMethod yX12_bad ∈ xg := xg_in (List.mem_append_right _ (List.mem_append_right _ (List.mem_append_right _ (List.mem_append_right _ (List.mem_append_right _ (List.mem_append_right _ (List.mem_append_right _ (List.mem_append_left _ (List.mem_of_getElem? (i := 129) rfl))))))))) rfl
set_option maxRecDepth 100000 in
theorem kw_1570 : Cond.code yX12_bad cX12_bad 2 (some .boolean) ∈ xg := xg_in (List.mem_append_right _ (List.mem_append_right _ (List.mem_append_right _ (List.mem_append_right _ (List.mem_append_right _ (List.mem_append_right _ (List.mem_append_right _ (List.mem_append_left _ (List.mem_of_getElem? (i := 130) rfl))))))))) rfl
set_option maxRecDepth 100000 in
theorem kw_1571 : Cond.methodLink RX12 200 yX12_fresh ∈ xg := xg_in (List.mem_append_right _ (List.mem_append_right _ (List.mem_append_right _ (List.mem_append_right _ (List.mem_append_right _ (List.mem_append_right _ (List.mem_append_right _ (List.mem_append_left _ (List.mem_of_getElem? (i := 131) rfl))))))))) rfl
set_option maxRecDepth 100000 in
theorem kw_1573 : Cond.instanceMethod yX12_fresh ∈ xg := xg_in (List.mem_append_right _ (List.mem_append_right _ (List.mem_append_right _ (List.mem_append_right _ (List.mem_append_right _ (List.mem_append_right _ (List.mem_append_right _ (List.mem_append_left _ (List.mem_of_getElem? (i := 133) rfl))))))))) rfl
set_option maxRecDepth 100000 in
theorem kw_1574 : Cond.code yX12_fresh cX12_fresh 2 (some .boolean) ∈ xg := xg_in (List.mem_append_right _ (List.mem_append_right _ (List.mem_append_right _ (List.mem_append_right _ (List.mem_append_right _ (List.mem_append_right _ (List.mem_append_right _ (List.mem_append_left _ (List.mem_of_getElem? (i := 134) rfl))))))))) rfl
set_option maxRecDepth 100000 in
theorem kw_1575 : Cond.methodLink RX12 188 yX12_isName ∈ xg := xg_in (List.mem_append_right _ (List.mem_append_right _ (List.mem_append_right _ (List.mem_append_right _ (List.mem_append_right _ (List.mem_append_right _ (List.mem_append_right _ (List.mem_append_left _ (List.mem_of_getElem? (i := 135) rfl))))))))) rfl
set_option maxRecDepth 100000 in
theorem kw_1577 : Cond.instanceMethod yX12_isName ∈ xg := xg_in (List.mem_append_right _ (List.mem_append_right _ (List.mem_append_right _ (List.mem_append_right _ (List.mem_append_right _ (List.mem_append_right _ (List.mem_append_right _ (List.mem_append_left _ (List.mem_of_getElem? (i := 137) rfl))))))))) rfl
set_option maxRecDepth 100000 in
theorem kw_1578 : Cond.code yX12_isName cX12_isName 3 (some .boolean) ∈ xg := xg_in (List.mem_append_right _ (List.mem_append_right _ (List.mem_append_right _ (List.mem_append_right _ (List.mem_append_right _ (List.mem_append_right _ (List.mem_append_right _ (List.mem_append_left _ (List.mem_of_getElem? (i := 138) rfl))))))))) rfl
set_option maxRecDepth 100000 in
theorem kw_1579 : Cond.methodLink RX12 192 yX12_find ∈ xg := xg_in (List.mem_append_right _ (List.mem_append_right _ (List.mem_append_right _ (List.mem_append_right _ (List.mem_append_right _ (List.mem_append_right _ (List.mem_append_right _ (List.mem_append_left _ (List.mem_of_getElem? (i := 139) rfl))))))))) rfl
set_option maxRecDepth 100000 in
theorem kw_1581 : Cond.instanceMethod yX12_find ∈ xg := xg_in (List.mem_append_right _ (List.mem_append_right _ (List.mem_append_right _ (List.mem_append_right _ (List.mem_append_right _ (List.mem_append_right _ (List.mem_append_right _ (List.mem_append_left _ (List.mem_of_getElem? (i := 141) rfl))))))))) rfl
set_option maxRecDepth 100000 in
theorem kw_1582 : Cond.code yX12_find cX12_find 4 (some .int) ∈ xg := xg_in (List.mem_append_right _ (List.mem_append_right _ (List.mem_append_right _ (List.mem_append_right _ (List.mem_append_right _ (List.mem_append_right _ (List.mem_append_right _ (List.mem_append_left _ (List.mem_of_getElem? (i := 142) rfl))))))))) rfl
set_option maxRecDepth 100000 in
theorem kw_1583 : Cond.methodLink RX12 203 yX12_puts ∈ xg := xg_in (List.mem_append_right _ (List.mem_append_right _ (List.mem_append_right _ (List.mem_append_right _ (List.mem_append_right _ (List.mem_append_right _ (List.mem_append_right _ (List.mem_append_left _ (List.mem_of_getElem? (i := 143) rfl))))))))) rfl
set_option maxRecDepth 100000 in
theorem kw_1585 : Cond.instanceMethod yX12_puts ∈ xg := xg_in (List.mem_append_right _ (List.mem_append_right _ (List.mem_append_right _ (List.mem_append_right _ (List.mem_append_right _ (List.mem_append_right _ (List.mem_append_right _ (List.mem_append_left _ (List.mem_of_getElem? (i := 145) rfl))))))))) rfl
set_option maxRecDepth 100000 in
theorem kw_1586 : Cond.code yX12_puts cX12_puts 4 (some .boolean) ∈ xg := xg_in (List.mem_append_right _ (List.mem_append_right _ (List.mem_append_right _ (List.mem_append_right _ (List.mem_append_right _ (List.mem_append_right _ (List.mem_append_right _ (List.mem_append_left _ (List.mem_of_getElem? (i := 146) rfl))))))))) rfl
set_option maxRecDepth 100000 in
theorem kw_1587 : Cond.methodLink RX12 184 yX12_takes ∈ xg := xg_in (List.mem_append_right _ (List.mem_append_right _ (List.mem_append_right _ (List.mem_append_right _ (List.mem_append_right _ (List.mem_append_right _ (List.mem_append_right _ (List.mem_append_left _ (List.mem_of_getElem? (i := 147) rfl))))))))) rfl
set_option maxRecDepth 100000 in
theorem kw_1589 : Cond.instanceMethod yX12_takes ∈ xg := xg_in (List.mem_append_right _ (List.mem_append_right _ (List.mem_append_right _ (List.mem_append_right _ (List.mem_append_right _ (List.mem_append_right _ (List.mem_append_right _ (List.mem_append_left _ (List.mem_of_getElem? (i := 149) rfl))))))))) rfl
set_option maxRecDepth 100000 in
theorem kw_1590 : Cond.code yX12_takes cX12_takes 3 (some .boolean) ∈ xg := xg_in (List.mem_append_right _ (List.mem_append_right _ (List.mem_append_right _ (List.mem_append_right _ (List.mem_append_right _ (List.mem_append_right _ (List.mem_append_right _ (List.mem_append_left _ (List.mem_of_getElem? (i := 150) rfl))))))))) rfl
set_option maxRecDepth 100000 in
theorem kw_1591 : Cond.methodLink RX12 177 yX12_isIn ∈ xg := xg_in (List.mem_append_right _ (List.mem_append_right _ (List.mem_append_right _ (List.mem_append_right _ (List.mem_append_right _ (List.mem_append_right _ (List.mem_append_right _ (List.mem_append_left _ (List.mem_of_getElem? (i := 151) rfl))))))))) rfl
set_option maxRecDepth 100000 in
theorem kw_1592 : Cond.static yX12_isIn ∈ xg := xg_in (List.mem_append_right _ (List.mem_append_right _ (List.mem_append_right _ (List.mem_append_right _ (List.mem_append_right _ (List.mem_append_right _ (List.mem_append_right _ (List.mem_append_left _ (List.mem_of_getElem? (i := 152) rfl))))))))) rfl
set_option maxRecDepth 100000 in
theorem kw_1593 : Cond.code yX12_isIn cX12_isIn 3 (some .boolean) ∈ xg := xg_in (List.mem_append_right _ (List.mem_append_right _ (List.mem_append_right _ (List.mem_append_right _ (List.mem_append_right _ (List.mem_append_right _ (List.mem_append_right _ (List.mem_append_left _ (List.mem_of_getElem? (i := 153) rfl))))))))) rfl
set_option maxRecDepth 100000 in
theorem kw_1594 : Cond.methodLink RX12 206 yX12_readSoul ∈ xg := xg_in (List.mem_append_right _ (List.mem_append_right _ (List.mem_append_right _ (List.mem_append_right _ (List.mem_append_right _ (List.mem_append_right _ (List.mem_append_right _ (List.mem_append_left _ (List.mem_of_getElem? (i := 154) rfl))))))))) rfl
set_option maxRecDepth 100000 in
theorem kw_1596 : Cond.instanceMethod yX12_readSoul ∈ xg := xg_in (List.mem_append_right _ (List.mem_append_right _ (List.mem_append_right _ (List.mem_append_right _ (List.mem_append_right _ (List.mem_append_right _ (List.mem_append_right _ (List.mem_append_left _ (List.mem_of_getElem? (i := 156) rfl))))))))) rfl
set_option maxRecDepth 100000 in
theorem kw_1597 : Cond.code yX12_readSoul cX12_readSoul 3 (some .boolean) ∈ xg := xg_in (List.mem_append_right _ (List.mem_append_right _ (List.mem_append_right _ (List.mem_append_right _ (List.mem_append_right _ (List.mem_append_right _ (List.mem_append_right _ (List.mem_append_left _ (List.mem_of_getElem? (i := 157) rfl))))))))) rfl
set_option maxRecDepth 100000 in
theorem kw_1598 : Cond.methodLink RX12 209 yX12_looksAt ∈ xg := xg_in (List.mem_append_right _ (List.mem_append_right _ (List.mem_append_right _ (List.mem_append_right _ (List.mem_append_right _ (List.mem_append_right _ (List.mem_append_right _ (List.mem_append_left _ (List.mem_of_getElem? (i := 158) rfl))))))))) rfl
set_option maxRecDepth 100000 in
theorem kw_1600 : Cond.instanceMethod yX12_looksAt ∈ xg := xg_in (List.mem_append_right _ (List.mem_append_right _ (List.mem_append_right _ (List.mem_append_right _ (List.mem_append_right _ (List.mem_append_right _ (List.mem_append_right _ (List.mem_append_left _ (List.mem_of_getElem? (i := 160) rfl))))))))) rfl
set_option maxRecDepth 100000 in
theorem kw_1601 : Cond.code yX12_looksAt cX12_looksAt 3 (some .boolean) ∈ xg := xg_in (List.mem_append_right _ (List.mem_append_right _ (List.mem_append_right _ (List.mem_append_right _ (List.mem_append_right _ (List.mem_append_right _ (List.mem_append_right _ (List.mem_append_left _ (List.mem_of_getElem? (i := 161) rfl))))))))) rfl
set_option maxRecDepth 100000 in
theorem kw_1602 : Cond.methodLink RX12 215 yX12_bitOf ∈ xg := xg_in (List.mem_append_right _ (List.mem_append_right _ (List.mem_append_right _ (List.mem_append_right _ (List.mem_append_right _ (List.mem_append_right _ (List.mem_append_right _ (List.mem_append_left _ (List.mem_of_getElem? (i := 162) rfl))))))))) rfl
set_option maxRecDepth 100000 in
theorem kw_1603 : Cond.static yX12_bitOf ∈ xg := xg_in (List.mem_append_right _ (List.mem_append_right _ (List.mem_append_right _ (List.mem_append_right _ (List.mem_append_right _ (List.mem_append_right _ (List.mem_append_right _ (List.mem_append_left _ (List.mem_of_getElem? (i := 163) rfl))))))))) rfl
set_option maxRecDepth 100000 in
theorem kw_1604 : Cond.code yX12_bitOf cX12_bitOf 2 (some .boolean) ∈ xg := xg_in (List.mem_append_right _ (List.mem_append_right _ (List.mem_append_right _ (List.mem_append_right _ (List.mem_append_right _ (List.mem_append_right _ (List.mem_append_right _ (List.mem_append_left _ (List.mem_of_getElem? (i := 164) rfl))))))))) rfl
set_option maxRecDepth 100000 in
theorem kw_1605 : Cond.methodLink RX12 227 yX12_sign ∈ xg := xg_in (List.mem_append_right _ (List.mem_append_right _ (List.mem_append_right _ (List.mem_append_right _ (List.mem_append_right _ (List.mem_append_right _ (List.mem_append_right _ (List.mem_append_left _ (List.mem_of_getElem? (i := 165) rfl))))))))) rfl
set_option maxRecDepth 100000 in
theorem kw_1607 : Cond.instanceMethod yX12_sign ∈ xg := xg_in (List.mem_append_right _ (List.mem_append_right _ (List.mem_append_right _ (List.mem_append_right _ (List.mem_append_right _ (List.mem_append_right _ (List.mem_append_right _ (List.mem_append_left _ (List.mem_of_getElem? (i := 167) rfl))))))))) rfl
set_option maxRecDepth 100000 in
theorem kw_1608 : Cond.code yX12_sign cX12_sign 2 (some .boolean) ∈ xg := xg_in (List.mem_append_right _ (List.mem_append_right _ (List.mem_append_right _ (List.mem_append_right _ (List.mem_append_right _ (List.mem_append_right _ (List.mem_append_right _ (List.mem_append_left _ (List.mem_of_getElem? (i := 168) rfl))))))))) rfl
set_option maxRecDepth 100000 in
theorem kw_1609 : Cond.methodLink RX12 168 yX12_isSign ∈ xg := xg_in (List.mem_append_right _ (List.mem_append_right _ (List.mem_append_right _ (List.mem_append_right _ (List.mem_append_right _ (List.mem_append_right _ (List.mem_append_right _ (List.mem_append_left _ (List.mem_of_getElem? (i := 169) rfl))))))))) rfl
set_option maxRecDepth 100000 in
theorem kw_1611 : Cond.instanceMethod yX12_isSign ∈ xg := xg_in (List.mem_append_right _ (List.mem_append_right _ (List.mem_append_right _ (List.mem_append_right _ (List.mem_append_right _ (List.mem_append_right _ (List.mem_append_right _ (List.mem_append_left _ (List.mem_of_getElem? (i := 171) rfl))))))))) rfl
set_option maxRecDepth 100000 in
theorem kw_1612 : Cond.code yX12_isSign cX12_isSign 2 (some .boolean) ∈ xg := xg_in (List.mem_append_right _ (List.mem_append_right _ (List.mem_append_right _ (List.mem_append_right _ (List.mem_append_right _ (List.mem_append_right _ (List.mem_append_right _ (List.mem_append_left _ (List.mem_of_getElem? (i := 172) rfl))))))))) rfl
set_option maxRecDepth 100000 in
theorem kw_1613 : Cond.methodLink RX12 230 yX12_waits ∈ xg := xg_in (List.mem_append_right _ (List.mem_append_right _ (List.mem_append_right _ (List.mem_append_right _ (List.mem_append_right _ (List.mem_append_right _ (List.mem_append_right _ (List.mem_append_left _ (List.mem_of_getElem? (i := 173) rfl))))))))) rfl
set_option maxRecDepth 100000 in
theorem kw_1615 : Cond.instanceMethod yX12_waits ∈ xg := xg_in (List.mem_append_right _ (List.mem_append_right _ (List.mem_append_right _ (List.mem_append_right _ (List.mem_append_right _ (List.mem_append_right _ (List.mem_append_right _ (List.mem_append_left _ (List.mem_of_getElem? (i := 175) rfl))))))))) rfl
set_option maxRecDepth 100000 in
theorem kw_1616 : Cond.code yX12_waits cX12_waits 2 none ∈ xg := xg_in (List.mem_append_right _ (List.mem_append_right _ (List.mem_append_right _ (List.mem_append_right _ (List.mem_append_right _ (List.mem_append_right _ (List.mem_append_right _ (List.mem_append_left _ (List.mem_of_getElem? (i := 176) rfl))))))))) rfl
set_option maxRecDepth 100000 in
theorem kw_17 : Cond.initialized RX12 ∈ xg := xg_in (List.mem_append_right _ (List.mem_append_left _ (List.mem_of_getElem? (i := 17) rfl))) rfl
set_option maxRecDepth 100000 in
theorem kw_1965 : Cond.methodLink RX12 439 yX12_nots ∈ xg := xg_in (List.mem_append_right _ (List.mem_append_right _ (List.mem_append_right _ (List.mem_append_right _ (List.mem_append_right _ (List.mem_append_right _ (List.mem_append_right _ (List.mem_append_right _ (List.mem_append_right _ (List.mem_of_getElem? (i := 45) rfl)))))))))) rfl
set_option maxRecDepth 100000 in
theorem kw_1967 : Cond.instanceMethod yX12_nots ∈ xg := xg_in (List.mem_append_right _ (List.mem_append_right _ (List.mem_append_right _ (List.mem_append_right _ (List.mem_append_right _ (List.mem_append_right _ (List.mem_append_right _ (List.mem_append_right _ (List.mem_append_right _ (List.mem_of_getElem? (i := 47) rfl)))))))))) rfl
set_option maxRecDepth 100000 in
theorem kw_1968 : Cond.code yX12_nots cX12_nots 1 none ∈ xg := xg_in (List.mem_append_right _ (List.mem_append_right _ (List.mem_append_right _ (List.mem_append_right _ (List.mem_append_right _ (List.mem_append_right _ (List.mem_append_right _ (List.mem_append_right _ (List.mem_append_right _ (List.mem_of_getElem? (i := 48) rfl)))))))))) rfl
set_option maxRecDepth 100000 in
theorem kw_1973 : Cond.methodLink RX12 442 yX12_joins ∈ xg := xg_in (List.mem_append_right _ (List.mem_append_right _ (List.mem_append_right _ (List.mem_append_right _ (List.mem_append_right _ (List.mem_append_right _ (List.mem_append_right _ (List.mem_append_right _ (List.mem_append_right _ (List.mem_of_getElem? (i := 53) rfl)))))))))) rfl
set_option maxRecDepth 100000 in
theorem kw_1975 : Cond.instanceMethod yX12_joins ∈ xg := xg_in (List.mem_append_right _ (List.mem_append_right _ (List.mem_append_right _ (List.mem_append_right _ (List.mem_append_right _ (List.mem_append_right _ (List.mem_append_right _ (List.mem_append_right _ (List.mem_append_right _ (List.mem_of_getElem? (i := 55) rfl)))))))))) rfl
set_option maxRecDepth 100000 in
theorem kw_1976 : Cond.code yX12_joins cX12_joins 2 none ∈ xg := xg_in (List.mem_append_right _ (List.mem_append_right _ (List.mem_append_right _ (List.mem_append_right _ (List.mem_append_right _ (List.mem_append_right _ (List.mem_append_right _ (List.mem_append_right _ (List.mem_append_right _ (List.mem_of_getElem? (i := 56) rfl)))))))))) rfl
set_option maxRecDepth 100000 in
theorem kw_1977 : Cond.methodLink RX12 445 yX12_behind ∈ xg := xg_in (List.mem_append_right _ (List.mem_append_right _ (List.mem_append_right _ (List.mem_append_right _ (List.mem_append_right _ (List.mem_append_right _ (List.mem_append_right _ (List.mem_append_right _ (List.mem_append_right _ (List.mem_of_getElem? (i := 57) rfl)))))))))) rfl
set_option maxRecDepth 100000 in
theorem kw_1979 : Cond.instanceMethod yX12_behind ∈ xg := xg_in (List.mem_append_right _ (List.mem_append_right _ (List.mem_append_right _ (List.mem_append_right _ (List.mem_append_right _ (List.mem_append_right _ (List.mem_append_right _ (List.mem_append_right _ (List.mem_append_right _ (List.mem_of_getElem? (i := 59) rfl)))))))))) rfl
set_option maxRecDepth 100000 in
theorem kw_1980 : Cond.code yX12_behind cX12_behind 1 (some .boolean) ∈ xg := xg_in (List.mem_append_right _ (List.mem_append_right _ (List.mem_append_right _ (List.mem_append_right _ (List.mem_append_right _ (List.mem_append_right _ (List.mem_append_right _ (List.mem_append_right _ (List.mem_append_right _ (List.mem_of_getElem? (i := 60) rfl)))))))))) rfl
set_option maxRecDepth 100000 in
theorem kw_1981 : Cond.methodLink RX12 448 yX12_operand ∈ xg := xg_in (List.mem_append_right _ (List.mem_append_right _ (List.mem_append_right _ (List.mem_append_right _ (List.mem_append_right _ (List.mem_append_right _ (List.mem_append_right _ (List.mem_append_right _ (List.mem_append_right _ (List.mem_of_getElem? (i := 61) rfl)))))))))) rfl
set_option maxRecDepth 100000 in
theorem kw_1983 : Cond.instanceMethod yX12_operand ∈ xg := xg_in (List.mem_append_right _ (List.mem_append_right _ (List.mem_append_right _ (List.mem_append_right _ (List.mem_append_right _ (List.mem_append_right _ (List.mem_append_right _ (List.mem_append_right _ (List.mem_append_right _ (List.mem_of_getElem? (i := 63) rfl)))))))))) rfl
set_option maxRecDepth 100000 in
theorem kw_1984 : Cond.code yX12_operand cX12_operand 5 (some .boolean) ∈ xg := xg_in (List.mem_append_right _ (List.mem_append_right _ (List.mem_append_right _ (List.mem_append_right _ (List.mem_append_right _ (List.mem_append_right _ (List.mem_append_right _ (List.mem_append_right _ (List.mem_append_right _ (List.mem_of_getElem? (i := 64) rfl)))))))))) rfl
