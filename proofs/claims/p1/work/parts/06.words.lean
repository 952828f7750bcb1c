theorem kw_157 : Cond.methodLink RX7 3 objectInit ∈ xg := xg_in (List.mem_append_right _ (List.mem_of_getElem? (i := 157) (by decide +kernel))) rfl
theorem kw_31 : Cond.instanceMethod objectInit ∈ xg := xg_in (List.mem_append_right _ (List.mem_of_getElem? (i := 31) (by decide +kernel))) rfl
theorem kw_32 : Cond.code objectInit ⟨#[0xb1]⟩ 1 none ∈ xg := xg_in (List.mem_append_right _ (List.mem_of_getElem? (i := 32) (by decide +kernel))) rfl
theorem kw_151 : Cond.arrayClass .long ∈ xg := xg_in (List.mem_append_right _ (List.mem_of_getElem? (i := 151) (by decide +kernel))) rfl
theorem kw_169 : Cond.fieldLink RX7 9 RX7 "nameWord" "[J" ∈ xg := xg_in (List.mem_append_right _ (List.mem_of_getElem? (i := 169) (by decide +kernel))) rfl
theorem kw_221 : Cond.arrayClass .int ∈ xg := xg_in (List.mem_append_right _ (List.mem_of_getElem? (i := 221) (by decide +kernel))) rfl
theorem kw_170 : Cond.fieldLink RX7 15 RX7 "price" "[I" ∈ xg := xg_in (List.mem_append_right _ (List.mem_of_getElem? (i := 170) (by decide +kernel))) rfl
theorem kw_174 : Cond.fieldLink RX7 19 RX7 "firstDebt" "[I" ∈ xg := xg_in (List.mem_append_right _ (List.mem_of_getElem? (i := 174) (by decide +kernel))) rfl
theorem kw_177 : Cond.fieldLink RX7 22 RX7 "every" "[I" ∈ xg := xg_in (List.mem_append_right _ (List.mem_of_getElem? (i := 177) (by decide +kernel))) rfl
theorem kw_180 : Cond.fieldLink RX7 25 RX7 "soulWord" "[J" ∈ xg := xg_in (List.mem_append_right _ (List.mem_of_getElem? (i := 180) (by decide +kernel))) rfl
theorem kw_181 : Cond.fieldLink RX7 28 RX7 "firstPurse" "[I" ∈ xg := xg_in (List.mem_append_right _ (List.mem_of_getElem? (i := 181) (by decide +kernel))) rfl
theorem kw_183 : Cond.fieldLink RX7 31 RX7 "firstName" "[I" ∈ xg := xg_in (List.mem_append_right _ (List.mem_of_getElem? (i := 183) (by decide +kernel))) rfl
theorem kw_186 : Cond.fieldLink RX7 34 RX7 "wish" "[I" ∈ xg := xg_in (List.mem_append_right _ (List.mem_of_getElem? (i := 186) (by decide +kernel))) rfl
theorem kw_191 : Cond.fieldLink RX7 37 RX7 "old" "[I" ∈ xg := xg_in (List.mem_append_right _ (List.mem_of_getElem? (i := 191) (by decide +kernel))) rfl
theorem kw_194 : Cond.fieldLink RX7 40 RX7 "worthRow" "[I" ∈ xg := xg_in (List.mem_append_right _ (List.mem_of_getElem? (i := 194) (by decide +kernel))) rfl
theorem kw_158 : Cond.fieldLink RX7 43 RX7 "names" "I" ∈ xg := xg_in (List.mem_append_right _ (List.mem_of_getElem? (i := 158) (by decide +kernel))) rfl
theorem kw_163 : Cond.fieldLink RX7 47 RX7 "souls" "I" ∈ xg := xg_in (List.mem_append_right _ (List.mem_of_getElem? (i := 163) (by decide +kernel))) rfl
theorem kw_706 : Cond.methodLink RX11 248 Lib.Math.min.name ∈ xg := xg_in (List.mem_append_right _ (List.mem_of_getElem? (i := 706) (by decide +kernel))) rfl
theorem kw_707 : Cond.static Lib.Math.min.name ∈ xg := xg_in (List.mem_append_right _ (List.mem_of_getElem? (i := 707) (by decide +kernel))) rfl
theorem kw_18 : Cond.initialized "java/lang/Math" ∈ xg := xg_in (List.mem_append_right _ (List.mem_of_getElem? (i := 18) (by decide +kernel))) rfl
theorem kw_708 : Cond.code Lib.Math.min.name Lib.Math.min.code 2 (some .int) ∈ xg := xg_in (List.mem_append_right _ (List.mem_of_getElem? (i := 708) (by decide +kernel))) rfl
theorem kw_709 : Cond.methodLink RX11 377 arraycopyName ∈ xg := xg_in (List.mem_append_right _ (List.mem_of_getElem? (i := 709) (by decide +kernel))) rfl
theorem kw_711 : Cond.native arraycopyName ∈ xg := xg_in (List.mem_append_right _ (List.mem_of_getElem? (i := 711) (by decide +kernel))) rfl
theorem kw_710 : Cond.static arraycopyName ∈ xg := xg_in (List.mem_append_right _ (List.mem_of_getElem? (i := 710) (by decide +kernel))) rfl
theorem kw_19 : Cond.initialized "java/lang/System" ∈ xg := xg_in (List.mem_append_right _ (List.mem_of_getElem? (i := 19) (by decide +kernel))) rfl
theorem kw_705 : Cond.code yX11_copyRow_ cX11_copyRow_ 2 none ∈ xg := xg_in (List.mem_append_right _ (List.mem_of_getElem? (i := 705) (by decide +kernel))) rfl
theorem kn_703 : Cond.methodLinkNest RX7 50 yX11_copyRow_ "NamesAgain" ∈ xn := xn_in (List.mem_append_right _ (List.mem_of_getElem? (i := 703) (by decide +kernel))) rfl
theorem kw_1 : Cond.initialized RX11 ∈ xg := xg_in (List.mem_append_right _ (List.mem_of_getElem? (i := 1) (by decide +kernel))) rfl
theorem kw_704 : Cond.static yX11_copyRow_ ∈ xg := xg_in (List.mem_append_right _ (List.mem_of_getElem? (i := 704) (by decide +kernel))) rfl
theorem kw_714 : Cond.code yX11_copyRow cX11_copyRow 2 none ∈ xg := xg_in (List.mem_append_right _ (List.mem_of_getElem? (i := 714) (by decide +kernel))) rfl
theorem kn_712 : Cond.methodLinkNest RX7 54 yX11_copyRow "NamesAgain" ∈ xn := xn_in (List.mem_append_right _ (List.mem_of_getElem? (i := 712) (by decide +kernel))) rfl
theorem kw_713 : Cond.static yX11_copyRow ∈ xg := xg_in (List.mem_append_right _ (List.mem_of_getElem? (i := 713) (by decide +kernel))) rfl
