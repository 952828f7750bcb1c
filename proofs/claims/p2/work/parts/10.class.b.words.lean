theorem kn_159 : Cond.fieldLinkNest RX2 65 RX7 "names" "I" "NamesAgain" ∈ xn := xn_in (List.mem_append_right _ (List.mem_of_getElem? (i := 159) (by decide +kernel))) rfl
theorem kn_164 : Cond.fieldLinkNest RX2 45 RX7 "souls" "I" "NamesAgain" ∈ xn := xn_in (List.mem_append_right _ (List.mem_of_getElem? (i := 164) (by decide +kernel))) rfl
theorem kn_173 : Cond.fieldLinkNest RX2 113 RX7 "price" "[I" "NamesAgain" ∈ xn := xn_in (List.mem_append_right _ (List.mem_of_getElem? (i := 173) (by decide +kernel))) rfl
theorem kn_756 : Cond.methodLinkNest RX2 102 yX11_hasBit "NamesAgain" ∈ xn := xn_in (List.mem_append_right _ (List.mem_of_getElem? (i := 756) (by decide +kernel))) rfl
theorem kn_831 : Cond.methodLinkNest RX9 22 yX2_copyFrom "NamesAgain" ∈ xn := xn_in (List.mem_append_right _ (List.mem_of_getElem? (i := 831) (by decide +kernel))) rfl
theorem kn_835 : Cond.methodLinkNest RX2 95 yX11_copyRow "NamesAgain" ∈ xn := xn_in (List.mem_append_right _ (List.mem_of_getElem? (i := 835) (by decide +kernel))) rfl
theorem kn_836 : Cond.methodLinkNest RX2 99 yX11_copyRow_ "NamesAgain" ∈ xn := xn_in (List.mem_append_right _ (List.mem_of_getElem? (i := 836) (by decide +kernel))) rfl
theorem kn_879 : Cond.methodLinkNest RX2 191 yX7_isFeast "NamesAgain" ∈ xn := xn_in (List.mem_append_right _ (List.mem_of_getElem? (i := 879) (by decide +kernel))) rfl
theorem kn_923 : Cond.methodLinkNest RX2 177 yX0_next "NamesAgain" ∈ xn := xn_in (List.mem_append_right _ (List.mem_of_getElem? (i := 923) (by decide +kernel))) rfl
theorem ks_35 : Cond.selects RX2 yX2_give yX2_give ∈ xg := xg_in (List.mem_append_left _ (List.mem_of_getElem? (i := 35) (by decide +kernel))) rfl
theorem ks_39 : Cond.selects RX2 yX2_hangedYet yX2_hangedYet ∈ xg := xg_in (List.mem_append_left _ (List.mem_of_getElem? (i := 39) (by decide +kernel))) rfl
theorem ks_45 : Cond.selects RX2 yX2_isAlive yX2_isAlive ∈ xg := xg_in (List.mem_append_left _ (List.mem_of_getElem? (i := 45) (by decide +kernel))) rfl
theorem ks_46 : Cond.selects RX2 yX2_waitAhead yX2_waitAhead ∈ xg := xg_in (List.mem_append_left _ (List.mem_of_getElem? (i := 46) (by decide +kernel))) rfl
theorem ks_48 : Cond.selects RX2 yX2_hasChanged yX2_hasChanged ∈ xg := xg_in (List.mem_append_left _ (List.mem_of_getElem? (i := 48) (by decide +kernel))) rfl
theorem ks_54 : Cond.selects RX2 yX2_copyFrom yX2_copyFrom ∈ xg := xg_in (List.mem_append_left _ (List.mem_of_getElem? (i := 54) (by decide +kernel))) rfl
theorem ks_57 : Cond.selects RX2 yX2_leaveQueue yX2_leaveQueue ∈ xg := xg_in (List.mem_append_left _ (List.mem_of_getElem? (i := 57) (by decide +kernel))) rfl
theorem ks_61 : Cond.selects RX2 yX2_loseName yX2_loseName ∈ xg := xg_in (List.mem_append_left _ (List.mem_of_getElem? (i := 61) (by decide +kernel))) rfl
theorem ks_64 : Cond.selects RX2 yX2_endMonday yX2_endMonday ∈ xg := xg_in (List.mem_append_left _ (List.mem_of_getElem? (i := 64) (by decide +kernel))) rfl
theorem ks_65 : Cond.selects RX7 yX7_isFeast yX7_isFeast ∈ xg := xg_in (List.mem_append_left _ (List.mem_of_getElem? (i := 65) (by decide +kernel))) rfl
theorem ks_66 : Cond.selects RX2 yX2_feast yX2_feast ∈ xg := xg_in (List.mem_append_left _ (List.mem_of_getElem? (i := 66) (by decide +kernel))) rfl
theorem ks_70 : Cond.selects RX0 yX0_next yX0_next ∈ xg := xg_in (List.mem_append_left _ (List.mem_of_getElem? (i := 70) (by decide +kernel))) rfl
theorem kw_1 : Cond.initialized RX11 ∈ xg := xg_in (List.mem_append_right _ (List.mem_of_getElem? (i := 1) (by decide +kernel))) rfl
theorem kw_104 : Cond.fieldLink RX6 60 RX6 "kind" "I" ∈ xg := xg_in (List.mem_append_right _ (List.mem_of_getElem? (i := 104) (by decide +kernel))) rfl
theorem kw_108 : Cond.fieldLink RX6 69 RX6 "word" "J" ∈ xg := xg_in (List.mem_append_right _ (List.mem_of_getElem? (i := 108) (by decide +kernel))) rfl
theorem kw_15 : Cond.initialized RX0 ∈ xg := xg_in (List.mem_append_right _ (List.mem_of_getElem? (i := 15) (by decide +kernel))) rfl
theorem kw_158 : Cond.fieldLink RX7 43 RX7 "names" "I" ∈ xg := xg_in (List.mem_append_right _ (List.mem_of_getElem? (i := 158) (by decide +kernel))) rfl
theorem kw_163 : Cond.fieldLink RX7 47 RX7 "souls" "I" ∈ xg := xg_in (List.mem_append_right _ (List.mem_of_getElem? (i := 163) (by decide +kernel))) rfl
theorem kw_177 : Cond.fieldLink RX7 22 RX7 "every" "[I" ∈ xg := xg_in (List.mem_append_right _ (List.mem_of_getElem? (i := 177) (by decide +kernel))) rfl
theorem kw_18 : Cond.initialized "java/lang/Math" ∈ xg := xg_in (List.mem_append_right _ (List.mem_of_getElem? (i := 18) (by decide +kernel))) rfl
theorem kw_180 : Cond.fieldLink RX7 25 RX7 "soulWord" "[J" ∈ xg := xg_in (List.mem_append_right _ (List.mem_of_getElem? (i := 180) (by decide +kernel))) rfl
theorem kw_181 : Cond.fieldLink RX7 28 RX7 "firstPurse" "[I" ∈ xg := xg_in (List.mem_append_right _ (List.mem_of_getElem? (i := 181) (by decide +kernel))) rfl
theorem kw_183 : Cond.fieldLink RX7 31 RX7 "firstName" "[I" ∈ xg := xg_in (List.mem_append_right _ (List.mem_of_getElem? (i := 183) (by decide +kernel))) rfl
theorem kw_186 : Cond.fieldLink RX7 34 RX7 "wish" "[I" ∈ xg := xg_in (List.mem_append_right _ (List.mem_of_getElem? (i := 186) (by decide +kernel))) rfl
theorem kw_19 : Cond.initialized "java/lang/System" ∈ xg := xg_in (List.mem_append_right _ (List.mem_of_getElem? (i := 19) (by decide +kernel))) rfl
theorem kw_191 : Cond.fieldLink RX7 37 RX7 "old" "[I" ∈ xg := xg_in (List.mem_append_right _ (List.mem_of_getElem? (i := 191) (by decide +kernel))) rfl
theorem kw_194 : Cond.fieldLink RX7 40 RX7 "worthRow" "[I" ∈ xg := xg_in (List.mem_append_right _ (List.mem_of_getElem? (i := 194) (by decide +kernel))) rfl
theorem kw_2030 : Cond.fieldLink RJ0 9 RJ0 "value" "[B" ∈ xg := xg_in (List.mem_append_right _ (List.mem_of_getElem? (i := 2030) (by decide +kernel))) rfl
theorem kw_2031 : Cond.fieldLink RJ0 15 RJ0 "coder" "B" ∈ xg := xg_in (List.mem_append_right _ (List.mem_of_getElem? (i := 2031) (by decide +kernel))) rfl
theorem kw_245 : Cond.fieldLink RX2 37 RX2 "told" "LNamesAgain$Told;" ∈ xg := xg_in (List.mem_append_right _ (List.mem_of_getElem? (i := 245) (by decide +kernel))) rfl
theorem kw_247 : Cond.fieldLink RX2 41 RX2 "monday" "I" ∈ xg := xg_in (List.mem_append_right _ (List.mem_of_getElem? (i := 247) (by decide +kernel))) rfl
theorem kw_250 : Cond.fieldLink RX2 50 RX2 "living" "I" ∈ xg := xg_in (List.mem_append_right _ (List.mem_of_getElem? (i := 250) (by decide +kernel))) rfl
theorem kw_252 : Cond.fieldLink RX2 53 RX2 "changed" "I" ∈ xg := xg_in (List.mem_append_right _ (List.mem_of_getElem? (i := 252) (by decide +kernel))) rfl
theorem kw_253 : Cond.fieldLink RX2 56 RX2 "fugitives" "I" ∈ xg := xg_in (List.mem_append_right _ (List.mem_of_getElem? (i := 253) (by decide +kernel))) rfl
theorem kw_255 : Cond.fieldLink RX2 59 RX2 "sour" "I" ∈ xg := xg_in (List.mem_append_right _ (List.mem_of_getElem? (i := 255) (by decide +kernel))) rfl
theorem kw_257 : Cond.fieldLink RX2 62 RX2 "waitCount" "I" ∈ xg := xg_in (List.mem_append_right _ (List.mem_of_getElem? (i := 257) (by decide +kernel))) rfl
theorem kw_260 : Cond.fieldLink RX2 9 RX2 "bearer" "[I" ∈ xg := xg_in (List.mem_append_right _ (List.mem_of_getElem? (i := 260) (by decide +kernel))) rfl
theorem kw_264 : Cond.fieldLink RX2 15 RX2 "debt" "[I" ∈ xg := xg_in (List.mem_append_right _ (List.mem_of_getElem? (i := 264) (by decide +kernel))) rfl
theorem kw_266 : Cond.fieldLink RX2 18 RX2 "hangedTill" "[I" ∈ xg := xg_in (List.mem_append_right _ (List.mem_of_getElem? (i := 266) (by decide +kernel))) rfl
theorem kw_267 : Cond.fieldLink RX2 21 RX2 "nameOf" "[I" ∈ xg := xg_in (List.mem_append_right _ (List.mem_of_getElem? (i := 267) (by decide +kernel))) rfl
theorem kw_271 : Cond.fieldLink RX2 24 RX2 "purse" "[I" ∈ xg := xg_in (List.mem_append_right _ (List.mem_of_getElem? (i := 271) (by decide +kernel))) rfl
theorem kw_275 : Cond.fieldLink RX2 27 RX2 "feasted" "[I" ∈ xg := xg_in (List.mem_append_right _ (List.mem_of_getElem? (i := 275) (by decide +kernel))) rfl
theorem kw_278 : Cond.fieldLink RX2 30 RX2 "waiting" "[I" ∈ xg := xg_in (List.mem_append_right _ (List.mem_of_getElem? (i := 278) (by decide +kernel))) rfl
theorem kw_281 : Cond.fieldLink RX2 33 RX2 "past" "[J" ∈ xg := xg_in (List.mem_append_right _ (List.mem_of_getElem? (i := 281) (by decide +kernel))) rfl
theorem kw_3 : Cond.initialized RJ0 ∈ xg := xg_in (List.mem_append_right _ (List.mem_of_getElem? (i := 3) (by decide +kernel))) rfl
theorem kw_322 : Cond.fieldLink RX9 11 RX9 "kept" "[LNamesAgain$Life;" ∈ xg := xg_in (List.mem_append_right _ (List.mem_of_getElem? (i := 322) (by decide +kernel))) rfl
theorem kw_323 : Cond.fieldLink RX9 18 RX9 "next" "I" ∈ xg := xg_in (List.mem_append_right _ (List.mem_of_getElem? (i := 323) (by decide +kernel))) rfl
theorem kw_324 : Cond.fieldLink RX9 26 RX9 "size" "I" ∈ xg := xg_in (List.mem_append_right _ (List.mem_of_getElem? (i := 324) (by decide +kernel))) rfl
theorem kw_4 : Cond.initialized RJ1 ∈ xg := xg_in (List.mem_append_right _ (List.mem_of_getElem? (i := 4) (by decide +kernel))) rfl
theorem kw_418 : Cond.fieldLink RX10 9 RX10 "pointsAt" "[I" ∈ xg := xg_in (List.mem_append_right _ (List.mem_of_getElem? (i := 418) (by decide +kernel))) rfl
theorem kw_44 : Cond.methodLink RX6 29 yJ0_length_8abf5 ∈ xg := xg_in (List.mem_append_right _ (List.mem_of_getElem? (i := 44) (by decide +kernel))) rfl
theorem kw_45 : Cond.instanceMethod yJ0_length_8abf5 ∈ xg := xg_in (List.mem_append_right _ (List.mem_of_getElem? (i := 45) (by decide +kernel))) rfl
theorem kw_46 : Cond.selects RJ0 yJ0_length_8abf5 yJ0_length_8abf5 ∈ xg := xg_in (List.mem_append_right _ (List.mem_of_getElem? (i := 46) (by decide +kernel))) rfl
theorem kw_462 : Cond.fieldLink RX0 7 RX0 "seed" "I" ∈ xg := xg_in (List.mem_append_right _ (List.mem_of_getElem? (i := 462) (by decide +kernel))) rfl
theorem kw_47 : Cond.code yJ0_length_8abf5 cJ0_length_8abf5 1 (some .int) ∈ xg := xg_in (List.mem_append_right _ (List.mem_of_getElem? (i := 47) (by decide +kernel))) rfl
theorem kw_48 : Cond.methodLink RJ0 335 yJ0_coder_7d493 ∈ xg := xg_in (List.mem_append_right _ (List.mem_of_getElem? (i := 48) (by decide +kernel))) rfl
theorem kw_49 : Cond.instanceMethod yJ0_coder_7d493 ∈ xg := xg_in (List.mem_append_right _ (List.mem_of_getElem? (i := 49) (by decide +kernel))) rfl
theorem kw_5 : Cond.initialized RJ3 ∈ xg := xg_in (List.mem_append_right _ (List.mem_of_getElem? (i := 5) (by decide +kernel))) rfl
theorem kw_50 : Cond.selects RJ0 yJ0_coder_7d493 yJ0_coder_7d493 ∈ xg := xg_in (List.mem_append_right _ (List.mem_of_getElem? (i := 50) (by decide +kernel))) rfl
theorem kw_51 : Cond.code yJ0_coder_7d493 cJ0_coder_7d493 1 (some .byte) ∈ xg := xg_in (List.mem_append_right _ (List.mem_of_getElem? (i := 51) (by decide +kernel))) rfl
theorem kw_52 : Cond.fieldLink RJ0 38 RJ0 "COMPACT_STRINGS" "Z" ∈ xg := xg_in (List.mem_append_right _ (List.mem_of_getElem? (i := 52) (by decide +kernel))) rfl
theorem kw_54 : Cond.methodLink RX6 39 yJ0_charAt_5068e ∈ xg := xg_in (List.mem_append_right _ (List.mem_of_getElem? (i := 54) (by decide +kernel))) rfl
theorem kw_55 : Cond.instanceMethod yJ0_charAt_5068e ∈ xg := xg_in (List.mem_append_right _ (List.mem_of_getElem? (i := 55) (by decide +kernel))) rfl
theorem kw_56 : Cond.selects RJ0 yJ0_charAt_5068e yJ0_charAt_5068e ∈ xg := xg_in (List.mem_append_right _ (List.mem_of_getElem? (i := 56) (by decide +kernel))) rfl
theorem kw_57 : Cond.code yJ0_charAt_5068e cJ0_charAt_5068e 2 (some .char) ∈ xg := xg_in (List.mem_append_right _ (List.mem_of_getElem? (i := 57) (by decide +kernel))) rfl
theorem kw_58 : Cond.methodLink RJ0 492 yJ0_isLatin1_aae02 ∈ xg := xg_in (List.mem_append_right _ (List.mem_of_getElem? (i := 58) (by decide +kernel))) rfl
theorem kw_59 : Cond.instanceMethod yJ0_isLatin1_aae02 ∈ xg := xg_in (List.mem_append_right _ (List.mem_of_getElem? (i := 59) (by decide +kernel))) rfl
theorem kw_60 : Cond.selects RJ0 yJ0_isLatin1_aae02 yJ0_isLatin1_aae02 ∈ xg := xg_in (List.mem_append_right _ (List.mem_of_getElem? (i := 60) (by decide +kernel))) rfl
theorem kw_61 : Cond.code yJ0_isLatin1_aae02 cJ0_isLatin1_aae02 1 (some .boolean) ∈ xg := xg_in (List.mem_append_right _ (List.mem_of_getElem? (i := 61) (by decide +kernel))) rfl
theorem kw_62 : Cond.methodLink RJ0 495 yJ1_charAt_3b067 ∈ xg := xg_in (List.mem_append_right _ (List.mem_of_getElem? (i := 62) (by decide +kernel))) rfl
theorem kw_63 : Cond.static yJ1_charAt_3b067 ∈ xg := xg_in (List.mem_append_right _ (List.mem_of_getElem? (i := 63) (by decide +kernel))) rfl
theorem kw_64 : Cond.code yJ1_charAt_3b067 cJ1_charAt_3b067 2 (some .char) ∈ xg := xg_in (List.mem_append_right _ (List.mem_of_getElem? (i := 64) (by decide +kernel))) rfl
theorem kw_65 : Cond.methodLink RJ1 9 yJ0_checkIndex_df160 ∈ xg := xg_in (List.mem_append_right _ (List.mem_of_getElem? (i := 65) (by decide +kernel))) rfl
theorem kw_66 : Cond.static yJ0_checkIndex_df160 ∈ xg := xg_in (List.mem_append_right _ (List.mem_of_getElem? (i := 66) (by decide +kernel))) rfl
theorem kw_67 : Cond.code yJ0_checkIndex_df160 cJ0_checkIndex_df160 2 none ∈ xg := xg_in (List.mem_append_right _ (List.mem_of_getElem? (i := 67) (by decide +kernel))) rfl
theorem kw_68 : Cond.fieldLink RJ0 1053 RJ3 "SIOOBE_FORMATTER" "Ljava/util/function/BiFunction;" ∈ xg := xg_in (List.mem_append_right _ (List.mem_of_getElem? (i := 68) (by decide +kernel))) rfl
theorem kw_7 : Cond.initialized RX7 ∈ xg := xg_in (List.mem_append_right _ (List.mem_of_getElem? (i := 7) (by decide +kernel))) rfl
theorem kw_70 : Cond.methodLink RJ0 1059 yJ3_checkIndex_8e157 ∈ xg := xg_in (List.mem_append_right _ (List.mem_of_getElem? (i := 70) (by decide +kernel))) rfl
theorem kw_704 : Cond.static yX11_copyRow_ ∈ xg := xg_in (List.mem_append_right _ (List.mem_of_getElem? (i := 704) (by decide +kernel))) rfl
theorem kw_705 : Cond.code yX11_copyRow_ cX11_copyRow_ 2 none ∈ xg := xg_in (List.mem_append_right _ (List.mem_of_getElem? (i := 705) (by decide +kernel))) rfl
theorem kw_706 : Cond.methodLink RX11 248 Lib.Math.min.name ∈ xg := xg_in (List.mem_append_right _ (List.mem_of_getElem? (i := 706) (by decide +kernel))) rfl
theorem kw_707 : Cond.static Lib.Math.min.name ∈ xg := xg_in (List.mem_append_right _ (List.mem_of_getElem? (i := 707) (by decide +kernel))) rfl
theorem kw_708 : Cond.code Lib.Math.min.name Lib.Math.min.code 2 (some .int) ∈ xg := xg_in (List.mem_append_right _ (List.mem_of_getElem? (i := 708) (by decide +kernel))) rfl
theorem kw_709 : Cond.methodLink RX11 377 arraycopyName ∈ xg := xg_in (List.mem_append_right _ (List.mem_of_getElem? (i := 709) (by decide +kernel))) rfl
theorem kw_71 : Cond.static yJ3_checkIndex_8e157 ∈ xg := xg_in (List.mem_append_right _ (List.mem_of_getElem? (i := 71) (by decide +kernel))) rfl
theorem kw_710 : Cond.static arraycopyName ∈ xg := xg_in (List.mem_append_right _ (List.mem_of_getElem? (i := 710) (by decide +kernel))) rfl
theorem kw_711 : Cond.native arraycopyName ∈ xg := xg_in (List.mem_append_right _ (List.mem_of_getElem? (i := 711) (by decide +kernel))) rfl
theorem kw_713 : Cond.static yX11_copyRow ∈ xg := xg_in (List.mem_append_right _ (List.mem_of_getElem? (i := 713) (by decide +kernel))) rfl
theorem kw_714 : Cond.code yX11_copyRow cX11_copyRow 2 none ∈ xg := xg_in (List.mem_append_right _ (List.mem_of_getElem? (i := 714) (by decide +kernel))) rfl
theorem kw_72 : Cond.code yJ3_checkIndex_8e157 cJ3_checkIndex_8e157 3 (some .int) ∈ xg := xg_in (List.mem_append_right _ (List.mem_of_getElem? (i := 72) (by decide +kernel))) rfl
theorem kw_723 : Cond.methodLink RX2 87 yX2_give ∈ xg := xg_in (List.mem_append_right _ (List.mem_of_getElem? (i := 723) (by decide +kernel))) rfl
theorem kw_725 : Cond.instanceMethod yX2_give ∈ xg := xg_in (List.mem_append_right _ (List.mem_of_getElem? (i := 725) (by decide +kernel))) rfl
theorem kw_726 : Cond.code yX2_give cX2_give 3 none ∈ xg := xg_in (List.mem_append_right _ (List.mem_of_getElem? (i := 726) (by decide +kernel))) rfl
theorem kw_748 : Cond.methodLink RX2 109 yX2_hangedYet ∈ xg := xg_in (List.mem_append_right _ (List.mem_of_getElem? (i := 748) (by decide +kernel))) rfl
theorem kw_750 : Cond.instanceMethod yX2_hangedYet ∈ xg := xg_in (List.mem_append_right _ (List.mem_of_getElem? (i := 750) (by decide +kernel))) rfl
theorem kw_751 : Cond.code yX2_hangedYet cX2_hangedYet 2 (some .int) ∈ xg := xg_in (List.mem_append_right _ (List.mem_of_getElem? (i := 751) (by decide +kernel))) rfl
theorem kw_757 : Cond.static yX11_hasBit ∈ xg := xg_in (List.mem_append_right _ (List.mem_of_getElem? (i := 757) (by decide +kernel))) rfl
theorem kw_758 : Cond.code yX11_hasBit cX11_hasBit 2 (some .boolean) ∈ xg := xg_in (List.mem_append_right _ (List.mem_of_getElem? (i := 758) (by decide +kernel))) rfl
theorem kw_793 : Cond.methodLink RX2 106 yX2_isAlive ∈ xg := xg_in (List.mem_append_right _ (List.mem_of_getElem? (i := 793) (by decide +kernel))) rfl
theorem kw_795 : Cond.instanceMethod yX2_isAlive ∈ xg := xg_in (List.mem_append_right _ (List.mem_of_getElem? (i := 795) (by decide +kernel))) rfl
theorem kw_796 : Cond.code yX2_isAlive cX2_isAlive 2 (some .boolean) ∈ xg := xg_in (List.mem_append_right _ (List.mem_of_getElem? (i := 796) (by decide +kernel))) rfl
theorem kw_798 : Cond.methodLink RX2 159 yX2_waitAhead ∈ xg := xg_in (List.mem_append_right _ (List.mem_of_getElem? (i := 798) (by decide +kernel))) rfl
theorem kw_800 : Cond.instanceMethod yX2_waitAhead ∈ xg := xg_in (List.mem_append_right _ (List.mem_of_getElem? (i := 800) (by decide +kernel))) rfl
theorem kw_801 : Cond.code yX2_waitAhead cX2_waitAhead 3 (some .int) ∈ xg := xg_in (List.mem_append_right _ (List.mem_of_getElem? (i := 801) (by decide +kernel))) rfl
theorem kw_807 : Cond.methodLink RX2 165 yX2_hasChanged ∈ xg := xg_in (List.mem_append_right _ (List.mem_of_getElem? (i := 807) (by decide +kernel))) rfl
theorem kw_809 : Cond.instanceMethod yX2_hasChanged ∈ xg := xg_in (List.mem_append_right _ (List.mem_of_getElem? (i := 809) (by decide +kernel))) rfl
theorem kw_810 : Cond.code yX2_hasChanged cX2_hasChanged 2 (some .boolean) ∈ xg := xg_in (List.mem_append_right _ (List.mem_of_getElem? (i := 810) (by decide +kernel))) rfl
theorem kw_833 : Cond.instanceMethod yX2_copyFrom ∈ xg := xg_in (List.mem_append_right _ (List.mem_of_getElem? (i := 833) (by decide +kernel))) rfl
theorem kw_834 : Cond.code yX2_copyFrom cX2_copyFrom 2 none ∈ xg := xg_in (List.mem_append_right _ (List.mem_of_getElem? (i := 834) (by decide +kernel))) rfl
theorem kw_837 : Cond.methodLink RX9 29 Lib.Math.min.name ∈ xg := xg_in (List.mem_append_right _ (List.mem_of_getElem? (i := 837) (by decide +kernel))) rfl
theorem kw_846 : Cond.methodLink RX2 171 yX2_leaveQueue ∈ xg := xg_in (List.mem_append_right _ (List.mem_of_getElem? (i := 846) (by decide +kernel))) rfl
theorem kw_848 : Cond.instanceMethod yX2_leaveQueue ∈ xg := xg_in (List.mem_append_right _ (List.mem_of_getElem? (i := 848) (by decide +kernel))) rfl
theorem kw_849 : Cond.code yX2_leaveQueue cX2_leaveQueue 3 none ∈ xg := xg_in (List.mem_append_right _ (List.mem_of_getElem? (i := 849) (by decide +kernel))) rfl
theorem kw_850 : Cond.methodLink RX2 182 arraycopyName ∈ xg := xg_in (List.mem_append_right _ (List.mem_of_getElem? (i := 850) (by decide +kernel))) rfl
theorem kw_863 : Cond.methodLink RX2 174 yX2_loseName ∈ xg := xg_in (List.mem_append_right _ (List.mem_of_getElem? (i := 863) (by decide +kernel))) rfl
theorem kw_865 : Cond.instanceMethod yX2_loseName ∈ xg := xg_in (List.mem_append_right _ (List.mem_of_getElem? (i := 865) (by decide +kernel))) rfl
theorem kw_866 : Cond.code yX2_loseName cX2_loseName 2 none ∈ xg := xg_in (List.mem_append_right _ (List.mem_of_getElem? (i := 866) (by decide +kernel))) rfl
theorem kw_875 : Cond.methodLink RX2 188 yX2_endMonday ∈ xg := xg_in (List.mem_append_right _ (List.mem_of_getElem? (i := 875) (by decide +kernel))) rfl
theorem kw_877 : Cond.instanceMethod yX2_endMonday ∈ xg := xg_in (List.mem_append_right _ (List.mem_of_getElem? (i := 877) (by decide +kernel))) rfl
theorem kw_878 : Cond.code yX2_endMonday cX2_endMonday 4 none ∈ xg := xg_in (List.mem_append_right _ (List.mem_of_getElem? (i := 878) (by decide +kernel))) rfl
theorem kw_881 : Cond.instanceMethod yX7_isFeast ∈ xg := xg_in (List.mem_append_right _ (List.mem_of_getElem? (i := 881) (by decide +kernel))) rfl
theorem kw_882 : Cond.code yX7_isFeast cX7_isFeast 3 (some .boolean) ∈ xg := xg_in (List.mem_append_right _ (List.mem_of_getElem? (i := 882) (by decide +kernel))) rfl
theorem kw_883 : Cond.methodLink RX2 194 yX2_feast ∈ xg := xg_in (List.mem_append_right _ (List.mem_of_getElem? (i := 883) (by decide +kernel))) rfl
theorem kw_885 : Cond.instanceMethod yX2_feast ∈ xg := xg_in (List.mem_append_right _ (List.mem_of_getElem? (i := 885) (by decide +kernel))) rfl
theorem kw_886 : Cond.code yX2_feast cX2_feast 2 none ∈ xg := xg_in (List.mem_append_right _ (List.mem_of_getElem? (i := 886) (by decide +kernel))) rfl
theorem kw_9 : Cond.initialized RX2 ∈ xg := xg_in (List.mem_append_right _ (List.mem_of_getElem? (i := 9) (by decide +kernel))) rfl
theorem kw_925 : Cond.instanceMethod yX0_next ∈ xg := xg_in (List.mem_append_right _ (List.mem_of_getElem? (i := 925) (by decide +kernel))) rfl
theorem kw_926 : Cond.code yX0_next cX0_next 2 (some .int) ∈ xg := xg_in (List.mem_append_right _ (List.mem_of_getElem? (i := 926) (by decide +kernel))) rfl
theorem kw_927 : Cond.constant RX0 13 (1103515245) ∈ xg := xg_in (List.mem_append_right _ (List.mem_of_getElem? (i := 927) (by decide +kernel))) rfl
theorem kw_94 : Cond.fieldLink RX6 11 RX6 "bytes" "[B" ∈ xg := xg_in (List.mem_append_right _ (List.mem_of_getElem? (i := 94) (by decide +kernel))) rfl
theorem kw_98 : Cond.fieldLink RX6 43 RX6 "length" "I" ∈ xg := xg_in (List.mem_append_right _ (List.mem_of_getElem? (i := 98) (by decide +kernel))) rfl
