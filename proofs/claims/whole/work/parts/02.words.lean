set_option maxRecDepth 20000 in
theorem uw_0 : Cond.selects RX10 yX10_isOver yX10_isOver ∈ uw := List.mem_filter.mpr ⟨List.mem_of_getElem? (i := 0) (by decide +kernel), by decide +kernel⟩
set_option maxRecDepth 20000 in
theorem uw_1 : Cond.selects RX2 yX2_startAnew yX2_startAnew ∈ uw := List.mem_filter.mpr ⟨List.mem_of_getElem? (i := 1) (by decide +kernel), by decide +kernel⟩
set_option maxRecDepth 20000 in
theorem uw_2 : Cond.selects RX2 yX2_startToken yX2_startToken ∈ uw := List.mem_filter.mpr ⟨List.mem_of_getElem? (i := 2) (by decide +kernel), by decide +kernel⟩
set_option maxRecDepth 20000 in
theorem uw_3 : Cond.selects RX2 yX2_readClause yX2_readClause ∈ uw := List.mem_filter.mpr ⟨List.mem_of_getElem? (i := 3) (by decide +kernel), by decide +kernel⟩
set_option maxRecDepth 20000 in
theorem uw_4 : Cond.selects RX2 yX2_readWord yX2_readWord ∈ uw := List.mem_filter.mpr ⟨List.mem_of_getElem? (i := 4) (by decide +kernel), by decide +kernel⟩
set_option maxRecDepth 20000 in
theorem uw_5 : Cond.selects RX2 yX2_clauseNamed yX2_clauseNamed ∈ uw := List.mem_filter.mpr ⟨List.mem_of_getElem? (i := 5) (by decide +kernel), by decide +kernel⟩
set_option maxRecDepth 20000 in
theorem uw_6 : Cond.selects RX2 yX2_isWord yX2_isWord ∈ uw := List.mem_filter.mpr ⟨List.mem_of_getElem? (i := 6) (by decide +kernel), by decide +kernel⟩
set_option maxRecDepth 20000 in
theorem uw_7 : Cond.selects RX2 yX2_refuse yX2_refuse ∈ uw := List.mem_filter.mpr ⟨List.mem_of_getElem? (i := 7) (by decide +kernel), by decide +kernel⟩
set_option maxRecDepth 20000 in
theorem uw_8 : Cond.selects RX2 yX2_readNumber yX2_readNumber ∈ uw := List.mem_filter.mpr ⟨List.mem_of_getElem? (i := 8) (by decide +kernel), by decide +kernel⟩
set_option maxRecDepth 20000 in
theorem uw_9 : Cond.selects RX2 yX2_readYesOrNo yX2_readYesOrNo ∈ uw := List.mem_filter.mpr ⟨List.mem_of_getElem? (i := 9) (by decide +kernel), by decide +kernel⟩
set_option maxRecDepth 20000 in
theorem uw_10 : Cond.selects RX2 yX2_goesOn yX2_goesOn ∈ uw := List.mem_filter.mpr ⟨List.mem_of_getElem? (i := 10) (by decide +kernel), by decide +kernel⟩
set_option maxRecDepth 20000 in
theorem uw_11 : Cond.selects RX5 yX5_putInOrder yX5_putInOrder ∈ uw := List.mem_filter.mpr ⟨List.mem_of_getElem? (i := 11) (by decide +kernel), by decide +kernel⟩
set_option maxRecDepth 20000 in
theorem uw_12 : Cond.selects RX6 yX6_comesAbout yX6_comesAbout ∈ uw := List.mem_filter.mpr ⟨List.mem_of_getElem? (i := 12) (by decide +kernel), by decide +kernel⟩
set_option maxRecDepth 20000 in
theorem uw_13 : Cond.selects RX6 yX6_enrol yX6_enrol ∈ uw := List.mem_filter.mpr ⟨List.mem_of_getElem? (i := 13) (by decide +kernel), by decide +kernel⟩
set_option maxRecDepth 20000 in
theorem uw_14 : Cond.selects RX6 yX6_canTakePlace yX6_canTakePlace ∈ uw := List.mem_filter.mpr ⟨List.mem_of_getElem? (i := 14) (by decide +kernel), by decide +kernel⟩
set_option maxRecDepth 20000 in
theorem uw_15 : Cond.selects RX6 yX6_seat yX6_seat ∈ uw := List.mem_filter.mpr ⟨List.mem_of_getElem? (i := 15) (by decide +kernel), by decide +kernel⟩
set_option maxRecDepth 20000 in
theorem uw_16 : Cond.selects RX6 yX6_bury yX6_bury ∈ uw := List.mem_filter.mpr ⟨List.mem_of_getElem? (i := 16) (by decide +kernel), by decide +kernel⟩
set_option maxRecDepth 20000 in
theorem uw_17 : Cond.selects RX6 yX6_vacate yX6_vacate ∈ uw := List.mem_filter.mpr ⟨List.mem_of_getElem? (i := 17) (by decide +kernel), by decide +kernel⟩
set_option maxRecDepth 20000 in
theorem uw_18 : Cond.selects RX6 yX6_sell yX6_sell ∈ uw := List.mem_filter.mpr ⟨List.mem_of_getElem? (i := 18) (by decide +kernel), by decide +kernel⟩
set_option maxRecDepth 20000 in
theorem uw_19 : Cond.selects RX6 yX6_strike yX6_strike ∈ uw := List.mem_filter.mpr ⟨List.mem_of_getElem? (i := 19) (by decide +kernel), by decide +kernel⟩
set_option maxRecDepth 20000 in
theorem uw_20 : Cond.selects RX4 yX4_dueShares yX4_dueShares ∈ uw := List.mem_filter.mpr ⟨List.mem_of_getElem? (i := 20) (by decide +kernel), by decide +kernel⟩
set_option maxRecDepth 20000 in
theorem uw_21 : Cond.selects RX4 yX4_cutByRank yX4_cutByRank ∈ uw := List.mem_filter.mpr ⟨List.mem_of_getElem? (i := 21) (by decide +kernel), by decide +kernel⟩
set_option maxRecDepth 20000 in
theorem uw_22 : Cond.selects RX4 yX4_cutToWhatIsThere yX4_cutToWhatIsThere ∈ uw := List.mem_filter.mpr ⟨List.mem_of_getElem? (i := 22) (by decide +kernel), by decide +kernel⟩
set_option maxRecDepth 20000 in
theorem uw_23 : Cond.selects RX4 yX4_hand yX4_hand ∈ uw := List.mem_filter.mpr ⟨List.mem_of_getElem? (i := 23) (by decide +kernel), by decide +kernel⟩
set_option maxRecDepth 20000 in
theorem uw_24 : Cond.selects RX3 yX3_grow yX3_grow ∈ uw := List.mem_filter.mpr ⟨List.mem_of_getElem? (i := 24) (by decide +kernel), by decide +kernel⟩
set_option maxRecDepth 20000 in
theorem uw_25 : Cond.selects RX3 yX3_placesServed yX3_placesServed ∈ uw := List.mem_filter.mpr ⟨List.mem_of_getElem? (i := 25) (by decide +kernel), by decide +kernel⟩
set_option maxRecDepth 20000 in
theorem uw_26 : Cond.selects RX3 yX3_startOf yX3_startOf ∈ uw := List.mem_filter.mpr ⟨List.mem_of_getElem? (i := 26) (by decide +kernel), by decide +kernel⟩
set_option maxRecDepth 20000 in
theorem uw_27 : Cond.selects RX3 yX3_endOf yX3_endOf ∈ uw := List.mem_filter.mpr ⟨List.mem_of_getElem? (i := 27) (by decide +kernel), by decide +kernel⟩
set_option maxRecDepth 20000 in
theorem uw_28 : Cond.selects RX10 yX10_isParted yX10_isParted ∈ uw := List.mem_filter.mpr ⟨List.mem_of_getElem? (i := 28) (by decide +kernel), by decide +kernel⟩
set_option maxRecDepth 20000 in
theorem uw_29 : Cond.selects RX11 yX11_four yX11_four ∈ uw := List.mem_filter.mpr ⟨List.mem_of_getElem? (i := 29) (by decide +kernel), by decide +kernel⟩
set_option maxRecDepth 20000 in
theorem uw_30 : Cond.selects RX11 yX11_empties yX11_empties ∈ uw := List.mem_filter.mpr ⟨List.mem_of_getElem? (i := 30) (by decide +kernel), by decide +kernel⟩
set_option maxRecDepth 20000 in
theorem uw_31 : Cond.selects RX11 yX11_see yX11_see ∈ uw := List.mem_filter.mpr ⟨List.mem_of_getElem? (i := 31) (by decide +kernel), by decide +kernel⟩
set_option maxRecDepth 20000 in
theorem uw_32 : Cond.selects RX11 yX11_clause yX11_clause ∈ uw := List.mem_filter.mpr ⟨List.mem_of_getElem? (i := 32) (by decide +kernel), by decide +kernel⟩
set_option maxRecDepth 20000 in
theorem uw_33 : Cond.selects RX11 yX11_clauseOf yX11_clauseOf ∈ uw := List.mem_filter.mpr ⟨List.mem_of_getElem? (i := 33) (by decide +kernel), by decide +kernel⟩
set_option maxRecDepth 20000 in
theorem uw_34 : Cond.selects RX11 yX11_looks yX11_looks ∈ uw := List.mem_filter.mpr ⟨List.mem_of_getElem? (i := 34) (by decide +kernel), by decide +kernel⟩
set_option maxRecDepth 20000 in
theorem uw_35 : Cond.selects RX11 yX11_isText yX11_isText ∈ uw := List.mem_filter.mpr ⟨List.mem_of_getElem? (i := 35) (by decide +kernel), by decide +kernel⟩
set_option maxRecDepth 20000 in
theorem uw_36 : Cond.selects RX11 yX11_fails yX11_fails ∈ uw := List.mem_filter.mpr ⟨List.mem_of_getElem? (i := 36) (by decide +kernel), by decide +kernel⟩
set_option maxRecDepth 20000 in
theorem uw_37 : Cond.selects RX11 yX11_number yX11_number ∈ uw := List.mem_filter.mpr ⟨List.mem_of_getElem? (i := 37) (by decide +kernel), by decide +kernel⟩
set_option maxRecDepth 20000 in
theorem uw_38 : Cond.selects RX11 yX11_lawNumberOf yX11_lawNumberOf ∈ uw := List.mem_filter.mpr ⟨List.mem_of_getElem? (i := 38) (by decide +kernel), by decide +kernel⟩
set_option maxRecDepth 20000 in
theorem uw_39 : Cond.selects RX11 yX11_lawOf yX11_lawOf ∈ uw := List.mem_filter.mpr ⟨List.mem_of_getElem? (i := 39) (by decide +kernel), by decide +kernel⟩
set_option maxRecDepth 20000 in
theorem uw_40 : Cond.selects RX11 yX11_list yX11_list ∈ uw := List.mem_filter.mpr ⟨List.mem_of_getElem? (i := 40) (by decide +kernel), by decide +kernel⟩
set_option maxRecDepth 20000 in
theorem uw_41 : Cond.selects RX11 yX11_goes yX11_goes ∈ uw := List.mem_filter.mpr ⟨List.mem_of_getElem? (i := 41) (by decide +kernel), by decide +kernel⟩
set_option maxRecDepth 20000 in
theorem uw_42 : Cond.selects RX11 yX11_placeOf yX11_placeOf ∈ uw := List.mem_filter.mpr ⟨List.mem_of_getElem? (i := 42) (by decide +kernel), by decide +kernel⟩
set_option maxRecDepth 20000 in
theorem uw_43 : Cond.selects RX11 yX11_listKnown yX11_listKnown ∈ uw := List.mem_filter.mpr ⟨List.mem_of_getElem? (i := 43) (by decide +kernel), by decide +kernel⟩
set_option maxRecDepth 20000 in
theorem uw_44 : Cond.selects RX11 yX11_lies yX11_lies ∈ uw := List.mem_filter.mpr ⟨List.mem_of_getElem? (i := 44) (by decide +kernel), by decide +kernel⟩
set_option maxRecDepth 20000 in
theorem uw_45 : Cond.selects RX11 yX11_throwsOut yX11_throwsOut ∈ uw := List.mem_filter.mpr ⟨List.mem_of_getElem? (i := 45) (by decide +kernel), by decide +kernel⟩
set_option maxRecDepth 20000 in
theorem uw_46 : Cond.selects RX11 yX11_all yX11_all ∈ uw := List.mem_filter.mpr ⟨List.mem_of_getElem? (i := 46) (by decide +kernel), by decide +kernel⟩
set_option maxRecDepth 20000 in
theorem uw_47 : Cond.selects RX11 yX11_lean yX11_lean ∈ uw := List.mem_filter.mpr ⟨List.mem_of_getElem? (i := 47) (by decide +kernel), by decide +kernel⟩
set_option maxRecDepth 20000 in
theorem uw_48 : Cond.selects RX11 yX11_takesCorn yX11_takesCorn ∈ uw := List.mem_filter.mpr ⟨List.mem_of_getElem? (i := 48) (by decide +kernel), by decide +kernel⟩
set_option maxRecDepth 20000 in
theorem uw_50 : Cond.initialized RX10 ∈ uw := List.mem_filter.mpr ⟨List.mem_of_getElem? (i := 50) (by decide +kernel), by decide +kernel⟩
set_option maxRecDepth 20000 in
theorem uw_51 : Cond.initialized RX8 ∈ uw := List.mem_filter.mpr ⟨List.mem_of_getElem? (i := 51) (by decide +kernel), by decide +kernel⟩
set_option maxRecDepth 20000 in
theorem uw_52 : Cond.initialized RX2 ∈ uw := List.mem_filter.mpr ⟨List.mem_of_getElem? (i := 52) (by decide +kernel), by decide +kernel⟩
set_option maxRecDepth 20000 in
theorem uw_53 : Cond.initialized RX1 ∈ uw := List.mem_filter.mpr ⟨List.mem_of_getElem? (i := 53) (by decide +kernel), by decide +kernel⟩
set_option maxRecDepth 20000 in
theorem uw_54 : Cond.initialized RX5 ∈ uw := List.mem_filter.mpr ⟨List.mem_of_getElem? (i := 54) (by decide +kernel), by decide +kernel⟩
set_option maxRecDepth 20000 in
theorem uw_55 : Cond.initialized RX6 ∈ uw := List.mem_filter.mpr ⟨List.mem_of_getElem? (i := 55) (by decide +kernel), by decide +kernel⟩
set_option maxRecDepth 20000 in
theorem uw_56 : Cond.initialized RX0 ∈ uw := List.mem_filter.mpr ⟨List.mem_of_getElem? (i := 56) (by decide +kernel), by decide +kernel⟩
set_option maxRecDepth 20000 in
theorem uw_57 : Cond.initialized RX7 ∈ uw := List.mem_filter.mpr ⟨List.mem_of_getElem? (i := 57) (by decide +kernel), by decide +kernel⟩
set_option maxRecDepth 20000 in
theorem uw_58 : Cond.initialized RX9 ∈ uw := List.mem_filter.mpr ⟨List.mem_of_getElem? (i := 58) (by decide +kernel), by decide +kernel⟩
set_option maxRecDepth 20000 in
theorem uw_59 : Cond.initialized RX3 ∈ uw := List.mem_filter.mpr ⟨List.mem_of_getElem? (i := 59) (by decide +kernel), by decide +kernel⟩
set_option maxRecDepth 20000 in
theorem uw_60 : Cond.initialized RX4 ∈ uw := List.mem_filter.mpr ⟨List.mem_of_getElem? (i := 60) (by decide +kernel), by decide +kernel⟩
set_option maxRecDepth 20000 in
theorem uw_61 : Cond.initialized RX11 ∈ uw := List.mem_filter.mpr ⟨List.mem_of_getElem? (i := 61) (by decide +kernel), by decide +kernel⟩
set_option maxRecDepth 20000 in
theorem uw_62 : Cond.initialized RJ0 ∈ uw := List.mem_filter.mpr ⟨List.mem_of_getElem? (i := 62) (by decide +kernel), by decide +kernel⟩
set_option maxRecDepth 20000 in
theorem uw_63 : Cond.initialized RJ1 ∈ uw := List.mem_filter.mpr ⟨List.mem_of_getElem? (i := 63) (by decide +kernel), by decide +kernel⟩
set_option maxRecDepth 20000 in
theorem uw_66 : Cond.initialized RJ7 ∈ uw := List.mem_filter.mpr ⟨List.mem_of_getElem? (i := 66) (by decide +kernel), by decide +kernel⟩
set_option maxRecDepth 20000 in
theorem uw_67 : Cond.initialized RJ9 ∈ uw := List.mem_filter.mpr ⟨List.mem_of_getElem? (i := 67) (by decide +kernel), by decide +kernel⟩
set_option maxRecDepth 20000 in
theorem uw_83 : Cond.fieldLink RX8 9 "GrainDole$Tape" "bytes" "[I" ∈ uw := List.mem_filter.mpr ⟨List.mem_of_getElem? (i := 83) (by decide +kernel), by decide +kernel⟩
set_option maxRecDepth 20000 in
theorem uw_84 : Cond.fieldLink RX8 13 "GrainDole$Tape" "length" "I" ∈ uw := List.mem_filter.mpr ⟨List.mem_of_getElem? (i := 84) (by decide +kernel), by decide +kernel⟩
set_option maxRecDepth 20000 in
theorem uw_97 : Cond.fieldLink RX2 29 "GrainDole$LawReader" "tape" "LGrainDole$Tape;" ∈ uw := List.mem_filter.mpr ⟨List.mem_of_getElem? (i := 97) (by decide +kernel), by decide +kernel⟩
set_option maxRecDepth 20000 in
theorem uw_98 : Cond.fieldLink RX2 9 "GrainDole$LawReader" "values" "[I" ∈ uw := List.mem_filter.mpr ⟨List.mem_of_getElem? (i := 98) (by decide +kernel), by decide +kernel⟩
set_option maxRecDepth 20000 in
theorem uw_99 : Cond.fieldLink RX2 15 "GrainDole$LawReader" "told" "[Z" ∈ uw := List.mem_filter.mpr ⟨List.mem_of_getElem? (i := 99) (by decide +kernel), by decide +kernel⟩
set_option maxRecDepth 20000 in
theorem uw_100 : Cond.fieldLink RX2 19 "GrainDole$LawReader" "place" "I" ∈ uw := List.mem_filter.mpr ⟨List.mem_of_getElem? (i := 100) (by decide +kernel), by decide +kernel⟩
set_option maxRecDepth 20000 in
theorem uw_101 : Cond.fieldLink RX2 23 "GrainDole$LawReader" "tokenStart" "I" ∈ uw := List.mem_filter.mpr ⟨List.mem_of_getElem? (i := 101) (by decide +kernel), by decide +kernel⟩
set_option maxRecDepth 20000 in
theorem uw_102 : Cond.fieldLink RX2 26 "GrainDole$LawReader" "fault" "I" ∈ uw := List.mem_filter.mpr ⟨List.mem_of_getElem? (i := 102) (by decide +kernel), by decide +kernel⟩
set_option maxRecDepth 20000 in
theorem uw_123 : Cond.fieldLink RX1 11 "GrainDole$LawBook" "values" "[I" ∈ uw := List.mem_filter.mpr ⟨List.mem_of_getElem? (i := 123) (by decide +kernel), by decide +kernel⟩
set_option maxRecDepth 20000 in
theorem uw_124 : Cond.fieldLink RX1 15 "GrainDole$LawBook" "months" "[I" ∈ uw := List.mem_filter.mpr ⟨List.mem_of_getElem? (i := 124) (by decide +kernel), by decide +kernel⟩
set_option maxRecDepth 20000 in
theorem uw_125 : Cond.fieldLink RX1 18 "GrainDole$LawBook" "knownFrom" "[I" ∈ uw := List.mem_filter.mpr ⟨List.mem_of_getElem? (i := 125) (by decide +kernel), by decide +kernel⟩
set_option maxRecDepth 20000 in
theorem uw_126 : Cond.fieldLink RX1 21 "GrainDole$LawBook" "size" "I" ∈ uw := List.mem_filter.mpr ⟨List.mem_of_getElem? (i := 126) (by decide +kernel), by decide +kernel⟩
set_option maxRecDepth 20000 in
theorem uw_142 : Cond.fieldLink RX5 11 "GrainDole$Roll" "kinds" "[I" ∈ uw := List.mem_filter.mpr ⟨List.mem_of_getElem? (i := 142) (by decide +kernel), by decide +kernel⟩
set_option maxRecDepth 20000 in
theorem uw_143 : Cond.fieldLink RX5 15 "GrainDole$Roll" "months" "[I" ∈ uw := List.mem_filter.mpr ⟨List.mem_of_getElem? (i := 143) (by decide +kernel), by decide +kernel⟩
set_option maxRecDepth 20000 in
theorem uw_144 : Cond.fieldLink RX5 18 "GrainDole$Roll" "places" "[I" ∈ uw := List.mem_filter.mpr ⟨List.mem_of_getElem? (i := 144) (by decide +kernel), by decide +kernel⟩
set_option maxRecDepth 20000 in
theorem uw_145 : Cond.fieldLink RX5 21 "GrainDole$Roll" "citizens" "[I" ∈ uw := List.mem_filter.mpr ⟨List.mem_of_getElem? (i := 145) (by decide +kernel), by decide +kernel⟩
set_option maxRecDepth 20000 in
theorem uw_146 : Cond.fieldLink RX5 24 "GrainDole$Roll" "ranks" "[I" ∈ uw := List.mem_filter.mpr ⟨List.mem_of_getElem? (i := 146) (by decide +kernel), by decide +kernel⟩
set_option maxRecDepth 20000 in
theorem uw_147 : Cond.fieldLink RX5 27 "GrainDole$Roll" "knownFrom" "[I" ∈ uw := List.mem_filter.mpr ⟨List.mem_of_getElem? (i := 147) (by decide +kernel), by decide +kernel⟩
set_option maxRecDepth 20000 in
theorem uw_148 : Cond.fieldLink RX5 30 "GrainDole$Roll" "order" "[I" ∈ uw := List.mem_filter.mpr ⟨List.mem_of_getElem? (i := 148) (by decide +kernel), by decide +kernel⟩
set_option maxRecDepth 20000 in
theorem uw_149 : Cond.fieldLink RX5 33 "GrainDole$Roll" "size" "I" ∈ uw := List.mem_filter.mpr ⟨List.mem_of_getElem? (i := 149) (by decide +kernel), by decide +kernel⟩
set_option maxRecDepth 20000 in
theorem uw_173 : Cond.fieldLink RX6 37 "GrainDole$Standing" "roll" "LGrainDole$Roll;" ∈ uw := List.mem_filter.mpr ⟨List.mem_of_getElem? (i := 173) (by decide +kernel), by decide +kernel⟩
set_option maxRecDepth 20000 in
theorem uw_174 : Cond.fieldLink RX6 41 "GrainDole$Standing" "laws" "LGrainDole$LawBook;" ∈ uw := List.mem_filter.mpr ⟨List.mem_of_getElem? (i := 174) (by decide +kernel), by decide +kernel⟩
set_option maxRecDepth 20000 in
theorem uw_175 : Cond.fieldLink RX6 9 "GrainDole$Standing" "citizens" "[I" ∈ uw := List.mem_filter.mpr ⟨List.mem_of_getElem? (i := 175) (by decide +kernel), by decide +kernel⟩
set_option maxRecDepth 20000 in
theorem uw_176 : Cond.fieldLink RX6 15 "GrainDole$Standing" "ranks" "[I" ∈ uw := List.mem_filter.mpr ⟨List.mem_of_getElem? (i := 176) (by decide +kernel), by decide +kernel⟩
set_option maxRecDepth 20000 in
theorem uw_177 : Cond.fieldLink RX6 18 "GrainDole$Standing" "places" "[I" ∈ uw := List.mem_filter.mpr ⟨List.mem_of_getElem? (i := 177) (by decide +kernel), by decide +kernel⟩
set_option maxRecDepth 20000 in
theorem uw_178 : Cond.fieldLink RX6 21 "GrainDole$Standing" "dead" "[Z" ∈ uw := List.mem_filter.mpr ⟨List.mem_of_getElem? (i := 178) (by decide +kernel), by decide +kernel⟩
set_option maxRecDepth 20000 in
theorem uw_179 : Cond.fieldLink RX6 27 "GrainDole$Standing" "voids" "[Z" ∈ uw := List.mem_filter.mpr ⟨List.mem_of_getElem? (i := 179) (by decide +kernel), by decide +kernel⟩
set_option maxRecDepth 20000 in
theorem uw_180 : Cond.fieldLink RX6 30 "GrainDole$Standing" "known" "I" ∈ uw := List.mem_filter.mpr ⟨List.mem_of_getElem? (i := 180) (by decide +kernel), by decide +kernel⟩
set_option maxRecDepth 20000 in
theorem uw_181 : Cond.fieldLink RX6 34 "GrainDole$Standing" "taken" "I" ∈ uw := List.mem_filter.mpr ⟨List.mem_of_getElem? (i := 181) (by decide +kernel), by decide +kernel⟩
set_option maxRecDepth 20000 in
theorem uw_207 : Cond.fieldLink RX0 11 "GrainDole$Fleet" "contracts" "[I" ∈ uw := List.mem_filter.mpr ⟨List.mem_of_getElem? (i := 207) (by decide +kernel), by decide +kernel⟩
set_option maxRecDepth 20000 in
theorem uw_208 : Cond.fieldLink RX0 15 "GrainDole$Fleet" "months" "[I" ∈ uw := List.mem_filter.mpr ⟨List.mem_of_getElem? (i := 208) (by decide +kernel), by decide +kernel⟩
set_option maxRecDepth 20000 in
theorem uw_209 : Cond.fieldLink RX0 18 "GrainDole$Fleet" "size" "I" ∈ uw := List.mem_filter.mpr ⟨List.mem_of_getElem? (i := 209) (by decide +kernel), by decide +kernel⟩
set_option maxRecDepth 20000 in
theorem uw_223 : Cond.fieldLink RX7 9 "GrainDole$Stores" "rooms" "[I" ∈ uw := List.mem_filter.mpr ⟨List.mem_of_getElem? (i := 223) (by decide +kernel), by decide +kernel⟩
set_option maxRecDepth 20000 in
theorem uw_224 : Cond.fieldLink RX7 15 "GrainDole$Stores" "lying" "[I" ∈ uw := List.mem_filter.mpr ⟨List.mem_of_getElem? (i := 224) (by decide +kernel), by decide +kernel⟩
set_option maxRecDepth 20000 in
theorem uw_225 : Cond.fieldLink RX7 18 "GrainDole$Stores" "ships" "[I" ∈ uw := List.mem_filter.mpr ⟨List.mem_of_getElem? (i := 225) (by decide +kernel), by decide +kernel⟩
set_option maxRecDepth 20000 in
theorem uw_226 : Cond.fieldLink RX7 21 "GrainDole$Stores" "granaries" "[I" ∈ uw := List.mem_filter.mpr ⟨List.mem_of_getElem? (i := 226) (by decide +kernel), by decide +kernel⟩
set_option maxRecDepth 20000 in
theorem uw_227 : Cond.fieldLink RX7 24 "GrainDole$Stores" "months" "[I" ∈ uw := List.mem_filter.mpr ⟨List.mem_of_getElem? (i := 227) (by decide +kernel), by decide +kernel⟩
set_option maxRecDepth 20000 in
theorem uw_228 : Cond.fieldLink RX7 27 "GrainDole$Stores" "landed" "[I" ∈ uw := List.mem_filter.mpr ⟨List.mem_of_getElem? (i := 228) (by decide +kernel), by decide +kernel⟩
set_option maxRecDepth 20000 in
theorem uw_229 : Cond.fieldLink RX7 30 "GrainDole$Stores" "rest" "[I" ∈ uw := List.mem_filter.mpr ⟨List.mem_of_getElem? (i := 229) (by decide +kernel), by decide +kernel⟩
set_option maxRecDepth 20000 in
theorem uw_230 : Cond.fieldLink RX7 33 "GrainDole$Stores" "thrown" "[I" ∈ uw := List.mem_filter.mpr ⟨List.mem_of_getElem? (i := 230) (by decide +kernel), by decide +kernel⟩
set_option maxRecDepth 20000 in
theorem uw_231 : Cond.fieldLink RX7 36 "GrainDole$Stores" "damps" "[Z" ∈ uw := List.mem_filter.mpr ⟨List.mem_of_getElem? (i := 231) (by decide +kernel), by decide +kernel⟩
set_option maxRecDepth 20000 in
theorem uw_232 : Cond.fieldLink RX7 40 "GrainDole$Stores" "size" "I" ∈ uw := List.mem_filter.mpr ⟨List.mem_of_getElem? (i := 232) (by decide +kernel), by decide +kernel⟩
set_option maxRecDepth 20000 in
theorem uw_260 : Cond.fieldLink RX9 9 "GrainDole$Tokens" "sworn" "[Z" ∈ uw := List.mem_filter.mpr ⟨List.mem_of_getElem? (i := 260) (by decide +kernel), by decide +kernel⟩
set_option maxRecDepth 20000 in
theorem uw_261 : Cond.fieldLink RX9 15 "GrainDole$Tokens" "shown" "[Z" ∈ uw := List.mem_filter.mpr ⟨List.mem_of_getElem? (i := 261) (by decide +kernel), by decide +kernel⟩
set_option maxRecDepth 20000 in
theorem uw_262 : Cond.fieldLink RX9 18 "GrainDole$Tokens" "frauds" "[I" ∈ uw := List.mem_filter.mpr ⟨List.mem_of_getElem? (i := 262) (by decide +kernel), by decide +kernel⟩
set_option maxRecDepth 20000 in
theorem uw_276 : Cond.fieldLink RX3 13 "GrainDole$Ledger" "facts" "[I" ∈ uw := List.mem_filter.mpr ⟨List.mem_of_getElem? (i := 276) (by decide +kernel), by decide +kernel⟩
set_option maxRecDepth 20000 in
theorem uw_277 : Cond.fieldLink RX3 17 "GrainDole$Ledger" "ends" "[I" ∈ uw := List.mem_filter.mpr ⟨List.mem_of_getElem? (i := 277) (by decide +kernel), by decide +kernel⟩
set_option maxRecDepth 20000 in
theorem uw_278 : Cond.fieldLink RX3 20 "GrainDole$Ledger" "places" "[I" ∈ uw := List.mem_filter.mpr ⟨List.mem_of_getElem? (i := 278) (by decide +kernel), by decide +kernel⟩
set_option maxRecDepth 20000 in
theorem uw_279 : Cond.fieldLink RX3 23 "GrainDole$Ledger" "citizens" "[I" ∈ uw := List.mem_filter.mpr ⟨List.mem_of_getElem? (i := 279) (by decide +kernel), by decide +kernel⟩
set_option maxRecDepth 20000 in
theorem uw_280 : Cond.fieldLink RX3 26 "GrainDole$Ledger" "lots" "[I" ∈ uw := List.mem_filter.mpr ⟨List.mem_of_getElem? (i := 280) (by decide +kernel), by decide +kernel⟩
set_option maxRecDepth 20000 in
theorem uw_281 : Cond.fieldLink RX3 29 "GrainDole$Ledger" "measures" "[I" ∈ uw := List.mem_filter.mpr ⟨List.mem_of_getElem? (i := 281) (by decide +kernel), by decide +kernel⟩
set_option maxRecDepth 20000 in
theorem uw_282 : Cond.fieldLink RX3 32 "GrainDole$Ledger" "size" "I" ∈ uw := List.mem_filter.mpr ⟨List.mem_of_getElem? (i := 282) (by decide +kernel), by decide +kernel⟩
set_option maxRecDepth 20000 in
theorem uw_304 : Cond.fieldLink RX4 23 "GrainDole$Parting" "standing" "LGrainDole$Standing;" ∈ uw := List.mem_filter.mpr ⟨List.mem_of_getElem? (i := 304) (by decide +kernel), by decide +kernel⟩
set_option maxRecDepth 20000 in
theorem uw_305 : Cond.fieldLink RX4 27 "GrainDole$Parting" "stores" "LGrainDole$Stores;" ∈ uw := List.mem_filter.mpr ⟨List.mem_of_getElem? (i := 305) (by decide +kernel), by decide +kernel⟩
set_option maxRecDepth 20000 in
theorem uw_306 : Cond.fieldLink RX4 31 "GrainDole$Parting" "tokens" "LGrainDole$Tokens;" ∈ uw := List.mem_filter.mpr ⟨List.mem_of_getElem? (i := 306) (by decide +kernel), by decide +kernel⟩
set_option maxRecDepth 20000 in
theorem uw_307 : Cond.fieldLink RX4 35 "GrainDole$Parting" "ledger" "LGrainDole$Ledger;" ∈ uw := List.mem_filter.mpr ⟨List.mem_of_getElem? (i := 307) (by decide +kernel), by decide +kernel⟩
set_option maxRecDepth 20000 in
theorem uw_308 : Cond.fieldLink RX4 9 "GrainDole$Parting" "due" "[I" ∈ uw := List.mem_filter.mpr ⟨List.mem_of_getElem? (i := 308) (by decide +kernel), by decide +kernel⟩
set_option maxRecDepth 20000 in
theorem uw_309 : Cond.fieldLink RX4 15 "GrainDole$Parting" "dueByShare" "I" ∈ uw := List.mem_filter.mpr ⟨List.mem_of_getElem? (i := 309) (by decide +kernel), by decide +kernel⟩
set_option maxRecDepth 20000 in
theorem uw_310 : Cond.fieldLink RX4 19 "GrainDole$Parting" "lean" "Z" ∈ uw := List.mem_filter.mpr ⟨List.mem_of_getElem? (i := 310) (by decide +kernel), by decide +kernel⟩
set_option maxRecDepth 20000 in
theorem uw_326 : Cond.fieldLink RX10 12 "GrainDole" "tape" "LGrainDole$Tape;" ∈ uw := List.mem_filter.mpr ⟨List.mem_of_getElem? (i := 326) (by decide +kernel), by decide +kernel⟩
set_option maxRecDepth 20000 in
theorem uw_327 : Cond.fieldLink RX10 21 "GrainDole" "reader" "LGrainDole$LawReader;" ∈ uw := List.mem_filter.mpr ⟨List.mem_of_getElem? (i := 327) (by decide +kernel), by decide +kernel⟩
set_option maxRecDepth 20000 in
theorem uw_328 : Cond.fieldLink RX10 28 "GrainDole" "laws" "LGrainDole$LawBook;" ∈ uw := List.mem_filter.mpr ⟨List.mem_of_getElem? (i := 328) (by decide +kernel), by decide +kernel⟩
set_option maxRecDepth 20000 in
theorem uw_329 : Cond.fieldLink RX10 35 "GrainDole" "roll" "LGrainDole$Roll;" ∈ uw := List.mem_filter.mpr ⟨List.mem_of_getElem? (i := 329) (by decide +kernel), by decide +kernel⟩
set_option maxRecDepth 20000 in
theorem uw_330 : Cond.fieldLink RX10 44 "GrainDole" "standing" "LGrainDole$Standing;" ∈ uw := List.mem_filter.mpr ⟨List.mem_of_getElem? (i := 330) (by decide +kernel), by decide +kernel⟩
set_option maxRecDepth 20000 in
theorem uw_331 : Cond.fieldLink RX10 51 "GrainDole" "fleet" "LGrainDole$Fleet;" ∈ uw := List.mem_filter.mpr ⟨List.mem_of_getElem? (i := 331) (by decide +kernel), by decide +kernel⟩
set_option maxRecDepth 20000 in
theorem uw_332 : Cond.fieldLink RX10 58 "GrainDole" "stores" "LGrainDole$Stores;" ∈ uw := List.mem_filter.mpr ⟨List.mem_of_getElem? (i := 332) (by decide +kernel), by decide +kernel⟩
set_option maxRecDepth 20000 in
theorem uw_333 : Cond.fieldLink RX10 65 "GrainDole" "tokens" "LGrainDole$Tokens;" ∈ uw := List.mem_filter.mpr ⟨List.mem_of_getElem? (i := 333) (by decide +kernel), by decide +kernel⟩
set_option maxRecDepth 20000 in
theorem uw_334 : Cond.fieldLink RX10 72 "GrainDole" "ledger" "LGrainDole$Ledger;" ∈ uw := List.mem_filter.mpr ⟨List.mem_of_getElem? (i := 334) (by decide +kernel), by decide +kernel⟩
set_option maxRecDepth 20000 in
theorem uw_335 : Cond.fieldLink RX10 81 "GrainDole" "parting" "LGrainDole$Parting;" ∈ uw := List.mem_filter.mpr ⟨List.mem_of_getElem? (i := 335) (by decide +kernel), by decide +kernel⟩
set_option maxRecDepth 20000 in
theorem uw_336 : Cond.fieldLink RX10 85 "GrainDole" "now" "I" ∈ uw := List.mem_filter.mpr ⟨List.mem_of_getElem? (i := 336) (by decide +kernel), by decide +kernel⟩
set_option maxRecDepth 20000 in
theorem uw_363 : Cond.code yX10_feed cX10_feed 6 (some .int) ∈ uw := List.mem_filter.mpr ⟨List.mem_of_getElem? (i := 363) (by decide +kernel), by decide +kernel⟩
set_option maxRecDepth 20000 in
theorem uw_364 : Cond.methodLink RX10 89 yX8_hasSpace ∈ uw := List.mem_filter.mpr ⟨List.mem_of_getElem? (i := 364) (by decide +kernel), by decide +kernel⟩
set_option maxRecDepth 20000 in
theorem uw_365 : Cond.instanceMethod yX8_hasSpace ∈ uw := List.mem_filter.mpr ⟨List.mem_of_getElem? (i := 365) (by decide +kernel), by decide +kernel⟩
set_option maxRecDepth 20000 in
theorem uw_366 : Cond.selects RX8 yX8_hasSpace yX8_hasSpace ∈ uw := List.mem_filter.mpr ⟨List.mem_of_getElem? (i := 366) (by decide +kernel), by decide +kernel⟩
set_option maxRecDepth 20000 in
theorem uw_367 : Cond.code yX8_hasSpace cX8_hasSpace 2 (some .boolean) ∈ uw := List.mem_filter.mpr ⟨List.mem_of_getElem? (i := 367) (by decide +kernel), by decide +kernel⟩
set_option maxRecDepth 20000 in
theorem uw_368 : Cond.methodLink RX10 93 yX8_append ∈ uw := List.mem_filter.mpr ⟨List.mem_of_getElem? (i := 368) (by decide +kernel), by decide +kernel⟩
set_option maxRecDepth 20000 in
theorem uw_369 : Cond.instanceMethod yX8_append ∈ uw := List.mem_filter.mpr ⟨List.mem_of_getElem? (i := 369) (by decide +kernel), by decide +kernel⟩
set_option maxRecDepth 20000 in
theorem uw_370 : Cond.selects RX8 yX8_append yX8_append ∈ uw := List.mem_filter.mpr ⟨List.mem_of_getElem? (i := 370) (by decide +kernel), by decide +kernel⟩
set_option maxRecDepth 20000 in
theorem uw_371 : Cond.code yX8_append cX8_append 3 none ∈ uw := List.mem_filter.mpr ⟨List.mem_of_getElem? (i := 371) (by decide +kernel), by decide +kernel⟩
set_option maxRecDepth 20000 in
theorem uw_372 : Cond.methodLink RX10 97 yX8_length ∈ uw := List.mem_filter.mpr ⟨List.mem_of_getElem? (i := 372) (by decide +kernel), by decide +kernel⟩
set_option maxRecDepth 20000 in
theorem uw_373 : Cond.instanceMethod yX8_length ∈ uw := List.mem_filter.mpr ⟨List.mem_of_getElem? (i := 373) (by decide +kernel), by decide +kernel⟩
set_option maxRecDepth 20000 in
theorem uw_374 : Cond.selects RX8 yX8_length yX8_length ∈ uw := List.mem_filter.mpr ⟨List.mem_of_getElem? (i := 374) (by decide +kernel), by decide +kernel⟩
set_option maxRecDepth 20000 in
theorem uw_375 : Cond.code yX8_length cX8_length 1 (some .int) ∈ uw := List.mem_filter.mpr ⟨List.mem_of_getElem? (i := 375) (by decide +kernel), by decide +kernel⟩
set_option maxRecDepth 20000 in
theorem uw_379 : Cond.code yX10_end cX10_end 2 (some .int) ∈ uw := List.mem_filter.mpr ⟨List.mem_of_getElem? (i := 379) (by decide +kernel), by decide +kernel⟩
set_option maxRecDepth 20000 in
theorem uw_380 : Cond.methodLink RX10 101 yX8_cut ∈ uw := List.mem_filter.mpr ⟨List.mem_of_getElem? (i := 380) (by decide +kernel), by decide +kernel⟩
set_option maxRecDepth 20000 in
theorem uw_381 : Cond.instanceMethod yX8_cut ∈ uw := List.mem_filter.mpr ⟨List.mem_of_getElem? (i := 381) (by decide +kernel), by decide +kernel⟩
set_option maxRecDepth 20000 in
theorem uw_382 : Cond.selects RX8 yX8_cut yX8_cut ∈ uw := List.mem_filter.mpr ⟨List.mem_of_getElem? (i := 382) (by decide +kernel), by decide +kernel⟩
set_option maxRecDepth 20000 in
theorem uw_383 : Cond.code yX8_cut cX8_cut 2 none ∈ uw := List.mem_filter.mpr ⟨List.mem_of_getElem? (i := 383) (by decide +kernel), by decide +kernel⟩
set_option maxRecDepth 20000 in
theorem uw_387 : Cond.code yX10_law cX10_law 4 (some .int) ∈ uw := List.mem_filter.mpr ⟨List.mem_of_getElem? (i := 387) (by decide +kernel), by decide +kernel⟩
set_option maxRecDepth 20000 in
theorem uw_388 : Cond.methodLink RX10 104 yX10_isOver ∈ uw := List.mem_filter.mpr ⟨List.mem_of_getElem? (i := 388) (by decide +kernel), by decide +kernel⟩
set_option maxRecDepth 20000 in
theorem uw_390 : Cond.instanceMethod yX10_isOver ∈ uw := List.mem_filter.mpr ⟨List.mem_of_getElem? (i := 390) (by decide +kernel), by decide +kernel⟩
set_option maxRecDepth 20000 in
theorem uw_391 : Cond.code yX10_isOver cX10_isOver 1 (some .boolean) ∈ uw := List.mem_filter.mpr ⟨List.mem_of_getElem? (i := 391) (by decide +kernel), by decide +kernel⟩
set_option maxRecDepth 20000 in
theorem uw_392 : Cond.methodLink RX10 108 yX1_isFull ∈ uw := List.mem_filter.mpr ⟨List.mem_of_getElem? (i := 392) (by decide +kernel), by decide +kernel⟩
set_option maxRecDepth 20000 in
theorem uw_393 : Cond.instanceMethod yX1_isFull ∈ uw := List.mem_filter.mpr ⟨List.mem_of_getElem? (i := 393) (by decide +kernel), by decide +kernel⟩
set_option maxRecDepth 20000 in
theorem uw_394 : Cond.selects RX1 yX1_isFull yX1_isFull ∈ uw := List.mem_filter.mpr ⟨List.mem_of_getElem? (i := 394) (by decide +kernel), by decide +kernel⟩
set_option maxRecDepth 20000 in
theorem uw_395 : Cond.code yX1_isFull cX1_isFull 1 (some .boolean) ∈ uw := List.mem_filter.mpr ⟨List.mem_of_getElem? (i := 395) (by decide +kernel), by decide +kernel⟩
set_option maxRecDepth 20000 in
theorem uw_396 : Cond.methodLink RX10 111 yX10_isMonth ∈ uw := List.mem_filter.mpr ⟨List.mem_of_getElem? (i := 396) (by decide +kernel), by decide +kernel⟩
set_option maxRecDepth 20000 in
theorem uw_397 : Cond.static yX10_isMonth ∈ uw := List.mem_filter.mpr ⟨List.mem_of_getElem? (i := 397) (by decide +kernel), by decide +kernel⟩
set_option maxRecDepth 20000 in
theorem uw_398 : Cond.code yX10_isMonth cX10_isMonth 1 (some .boolean) ∈ uw := List.mem_filter.mpr ⟨List.mem_of_getElem? (i := 398) (by decide +kernel), by decide +kernel⟩
set_option maxRecDepth 20000 in
theorem uw_399 : Cond.methodLink RX10 114 yX2_read ∈ uw := List.mem_filter.mpr ⟨List.mem_of_getElem? (i := 399) (by decide +kernel), by decide +kernel⟩
set_option maxRecDepth 20000 in
theorem uw_400 : Cond.instanceMethod yX2_read ∈ uw := List.mem_filter.mpr ⟨List.mem_of_getElem? (i := 400) (by decide +kernel), by decide +kernel⟩
set_option maxRecDepth 20000 in
theorem uw_401 : Cond.selects RX2 yX2_read yX2_read ∈ uw := List.mem_filter.mpr ⟨List.mem_of_getElem? (i := 401) (by decide +kernel), by decide +kernel⟩
set_option maxRecDepth 20000 in
theorem uw_402 : Cond.code yX2_read cX2_read 3 (some .int) ∈ uw := List.mem_filter.mpr ⟨List.mem_of_getElem? (i := 402) (by decide +kernel), by decide +kernel⟩
set_option maxRecDepth 20000 in
theorem uw_403 : Cond.methodLink RX2 33 yX2_startAnew ∈ uw := List.mem_filter.mpr ⟨List.mem_of_getElem? (i := 403) (by decide +kernel), by decide +kernel⟩
set_option maxRecDepth 20000 in
theorem uw_405 : Cond.instanceMethod yX2_startAnew ∈ uw := List.mem_filter.mpr ⟨List.mem_of_getElem? (i := 405) (by decide +kernel), by decide +kernel⟩
set_option maxRecDepth 20000 in
theorem uw_406 : Cond.code yX2_startAnew cX2_startAnew 2 none ∈ uw := List.mem_filter.mpr ⟨List.mem_of_getElem? (i := 406) (by decide +kernel), by decide +kernel⟩
set_option maxRecDepth 20000 in
theorem uw_407 : Cond.fieldLink RX2 52 "GrainDole$LawBook" "WITHOUT" "[I" ∈ uw := List.mem_filter.mpr ⟨List.mem_of_getElem? (i := 407) (by decide +kernel), by decide +kernel⟩
set_option maxRecDepth 20000 in
theorem uw_409 : Cond.methodLink RX2 36 yX2_startToken ∈ uw := List.mem_filter.mpr ⟨List.mem_of_getElem? (i := 409) (by decide +kernel), by decide +kernel⟩
set_option maxRecDepth 20000 in
theorem uw_411 : Cond.instanceMethod yX2_startToken ∈ uw := List.mem_filter.mpr ⟨List.mem_of_getElem? (i := 411) (by decide +kernel), by decide +kernel⟩
set_option maxRecDepth 20000 in
theorem uw_412 : Cond.code yX2_startToken cX2_startToken 1 none ∈ uw := List.mem_filter.mpr ⟨List.mem_of_getElem? (i := 412) (by decide +kernel), by decide +kernel⟩
set_option maxRecDepth 20000 in
theorem uw_413 : Cond.methodLink RX2 89 yX8_length ∈ uw := List.mem_filter.mpr ⟨List.mem_of_getElem? (i := 413) (by decide +kernel), by decide +kernel⟩
set_option maxRecDepth 20000 in
theorem uw_414 : Cond.methodLink RX2 39 yX8_at ∈ uw := List.mem_filter.mpr ⟨List.mem_of_getElem? (i := 414) (by decide +kernel), by decide +kernel⟩
set_option maxRecDepth 20000 in
theorem uw_415 : Cond.instanceMethod yX8_at ∈ uw := List.mem_filter.mpr ⟨List.mem_of_getElem? (i := 415) (by decide +kernel), by decide +kernel⟩
set_option maxRecDepth 20000 in
theorem uw_416 : Cond.selects RX8 yX8_at yX8_at ∈ uw := List.mem_filter.mpr ⟨List.mem_of_getElem? (i := 416) (by decide +kernel), by decide +kernel⟩
set_option maxRecDepth 20000 in
theorem uw_417 : Cond.code yX8_at cX8_at 2 (some .int) ∈ uw := List.mem_filter.mpr ⟨List.mem_of_getElem? (i := 417) (by decide +kernel), by decide +kernel⟩
set_option maxRecDepth 20000 in
theorem uw_418 : Cond.methodLink RX2 45 yX2_readClause ∈ uw := List.mem_filter.mpr ⟨List.mem_of_getElem? (i := 418) (by decide +kernel), by decide +kernel⟩
set_option maxRecDepth 20000 in
theorem uw_420 : Cond.instanceMethod yX2_readClause ∈ uw := List.mem_filter.mpr ⟨List.mem_of_getElem? (i := 420) (by decide +kernel), by decide +kernel⟩
set_option maxRecDepth 20000 in
theorem uw_421 : Cond.code yX2_readClause cX2_readClause 2 none ∈ uw := List.mem_filter.mpr ⟨List.mem_of_getElem? (i := 421) (by decide +kernel), by decide +kernel⟩
set_option maxRecDepth 20000 in
theorem uw_422 : Cond.methodLink RX2 57 yX2_readWord ∈ uw := List.mem_filter.mpr ⟨List.mem_of_getElem? (i := 422) (by decide +kernel), by decide +kernel⟩
set_option maxRecDepth 20000 in
theorem uw_424 : Cond.instanceMethod yX2_readWord ∈ uw := List.mem_filter.mpr ⟨List.mem_of_getElem? (i := 424) (by decide +kernel), by decide +kernel⟩
set_option maxRecDepth 20000 in
theorem uw_425 : Cond.code yX2_readWord cX2_readWord 1 none ∈ uw := List.mem_filter.mpr ⟨List.mem_of_getElem? (i := 425) (by decide +kernel), by decide +kernel⟩
set_option maxRecDepth 20000 in
theorem uw_426 : Cond.methodLink RX2 92 yX2_isBetween ∈ uw := List.mem_filter.mpr ⟨List.mem_of_getElem? (i := 426) (by decide +kernel), by decide +kernel⟩
set_option maxRecDepth 20000 in
theorem uw_427 : Cond.static yX2_isBetween ∈ uw := List.mem_filter.mpr ⟨List.mem_of_getElem? (i := 427) (by decide +kernel), by decide +kernel⟩
set_option maxRecDepth 20000 in
theorem uw_428 : Cond.code yX2_isBetween cX2_isBetween 3 (some .boolean) ∈ uw := List.mem_filter.mpr ⟨List.mem_of_getElem? (i := 428) (by decide +kernel), by decide +kernel⟩
set_option maxRecDepth 20000 in
theorem uw_429 : Cond.methodLink RX2 60 yX2_clauseNamed ∈ uw := List.mem_filter.mpr ⟨List.mem_of_getElem? (i := 429) (by decide +kernel), by decide +kernel⟩
set_option maxRecDepth 20000 in
theorem uw_431 : Cond.instanceMethod yX2_clauseNamed ∈ uw := List.mem_filter.mpr ⟨List.mem_of_getElem? (i := 431) (by decide +kernel), by decide +kernel⟩
set_option maxRecDepth 20000 in
theorem uw_432 : Cond.code yX2_clauseNamed cX2_clauseNamed 1 (some .int) ∈ uw := List.mem_filter.mpr ⟨List.mem_of_getElem? (i := 432) (by decide +kernel), by decide +kernel⟩
set_option maxRecDepth 20000 in
theorem uw_434 : Cond.methodLink RX2 83 yX2_isWord ∈ uw := List.mem_filter.mpr ⟨List.mem_of_getElem? (i := 434) (by decide +kernel), by decide +kernel⟩
set_option maxRecDepth 20000 in
theorem uw_436 : Cond.instanceMethod yX2_isWord ∈ uw := List.mem_filter.mpr ⟨List.mem_of_getElem? (i := 436) (by decide +kernel), by decide +kernel⟩
set_option maxRecDepth 20000 in
theorem uw_437 : Cond.code yX2_isWord cX2_isWord 4 (some .boolean) ∈ uw := List.mem_filter.mpr ⟨List.mem_of_getElem? (i := 437) (by decide +kernel), by decide +kernel⟩
set_option maxRecDepth 20000 in
theorem uw_438 : Cond.methodLink RX2 110 yJ0_length_8abf5 ∈ uw := List.mem_filter.mpr ⟨List.mem_of_getElem? (i := 438) (by decide +kernel), by decide +kernel⟩
set_option maxRecDepth 20000 in
theorem uw_439 : Cond.instanceMethod yJ0_length_8abf5 ∈ uw := List.mem_filter.mpr ⟨List.mem_of_getElem? (i := 439) (by decide +kernel), by decide +kernel⟩
set_option maxRecDepth 20000 in
theorem uw_440 : Cond.selects RJ0 yJ0_length_8abf5 yJ0_length_8abf5 ∈ uw := List.mem_filter.mpr ⟨List.mem_of_getElem? (i := 440) (by decide +kernel), by decide +kernel⟩
set_option maxRecDepth 20000 in
theorem uw_441 : Cond.code yJ0_length_8abf5 cJ0_length_8abf5 1 (some .int) ∈ uw := List.mem_filter.mpr ⟨List.mem_of_getElem? (i := 441) (by decide +kernel), by decide +kernel⟩
set_option maxRecDepth 20000 in
theorem uw_442 : Cond.methodLink RJ0 335 yJ0_coder_7d493 ∈ uw := List.mem_filter.mpr ⟨List.mem_of_getElem? (i := 442) (by decide +kernel), by decide +kernel⟩
set_option maxRecDepth 20000 in
theorem uw_443 : Cond.instanceMethod yJ0_coder_7d493 ∈ uw := List.mem_filter.mpr ⟨List.mem_of_getElem? (i := 443) (by decide +kernel), by decide +kernel⟩
set_option maxRecDepth 20000 in
theorem uw_444 : Cond.selects RJ0 yJ0_coder_7d493 yJ0_coder_7d493 ∈ uw := List.mem_filter.mpr ⟨List.mem_of_getElem? (i := 444) (by decide +kernel), by decide +kernel⟩
set_option maxRecDepth 20000 in
theorem uw_445 : Cond.code yJ0_coder_7d493 cJ0_coder_7d493 1 (some .byte) ∈ uw := List.mem_filter.mpr ⟨List.mem_of_getElem? (i := 445) (by decide +kernel), by decide +kernel⟩
set_option maxRecDepth 20000 in
theorem uw_446 : Cond.fieldLink RJ0 38 "java/lang/String" "COMPACT_STRINGS" "Z" ∈ uw := List.mem_filter.mpr ⟨List.mem_of_getElem? (i := 446) (by decide +kernel), by decide +kernel⟩
set_option maxRecDepth 20000 in
theorem uw_448 : Cond.methodLink RX2 113 yJ0_charAt_5068e ∈ uw := List.mem_filter.mpr ⟨List.mem_of_getElem? (i := 448) (by decide +kernel), by decide +kernel⟩
set_option maxRecDepth 20000 in
theorem uw_449 : Cond.instanceMethod yJ0_charAt_5068e ∈ uw := List.mem_filter.mpr ⟨List.mem_of_getElem? (i := 449) (by decide +kernel), by decide +kernel⟩
set_option maxRecDepth 20000 in
theorem uw_450 : Cond.selects RJ0 yJ0_charAt_5068e yJ0_charAt_5068e ∈ uw := List.mem_filter.mpr ⟨List.mem_of_getElem? (i := 450) (by decide +kernel), by decide +kernel⟩
set_option maxRecDepth 20000 in
theorem uw_451 : Cond.code yJ0_charAt_5068e cJ0_charAt_5068e 2 (some .char) ∈ uw := List.mem_filter.mpr ⟨List.mem_of_getElem? (i := 451) (by decide +kernel), by decide +kernel⟩
set_option maxRecDepth 20000 in
theorem uw_452 : Cond.methodLink RJ0 492 yJ0_isLatin1_aae02 ∈ uw := List.mem_filter.mpr ⟨List.mem_of_getElem? (i := 452) (by decide +kernel), by decide +kernel⟩
set_option maxRecDepth 20000 in
theorem uw_453 : Cond.instanceMethod yJ0_isLatin1_aae02 ∈ uw := List.mem_filter.mpr ⟨List.mem_of_getElem? (i := 453) (by decide +kernel), by decide +kernel⟩
set_option maxRecDepth 20000 in
theorem uw_454 : Cond.selects RJ0 yJ0_isLatin1_aae02 yJ0_isLatin1_aae02 ∈ uw := List.mem_filter.mpr ⟨List.mem_of_getElem? (i := 454) (by decide +kernel), by decide +kernel⟩
set_option maxRecDepth 20000 in
theorem uw_455 : Cond.code yJ0_isLatin1_aae02 cJ0_isLatin1_aae02 1 (some .boolean) ∈ uw := List.mem_filter.mpr ⟨List.mem_of_getElem? (i := 455) (by decide +kernel), by decide +kernel⟩
set_option maxRecDepth 20000 in
theorem uw_456 : Cond.methodLink RJ0 495 yJ1_charAt_3b067 ∈ uw := List.mem_filter.mpr ⟨List.mem_of_getElem? (i := 456) (by decide +kernel), by decide +kernel⟩
set_option maxRecDepth 20000 in
theorem uw_457 : Cond.static yJ1_charAt_3b067 ∈ uw := List.mem_filter.mpr ⟨List.mem_of_getElem? (i := 457) (by decide +kernel), by decide +kernel⟩
set_option maxRecDepth 20000 in
theorem uw_458 : Cond.code yJ1_charAt_3b067 cJ1_charAt_3b067 2 (some .char) ∈ uw := List.mem_filter.mpr ⟨List.mem_of_getElem? (i := 458) (by decide +kernel), by decide +kernel⟩
set_option maxRecDepth 20000 in
theorem uw_459 : Cond.methodLink RJ1 9 yJ0_checkIndex_df160 ∈ uw := List.mem_filter.mpr ⟨List.mem_of_getElem? (i := 459) (by decide +kernel), by decide +kernel⟩
set_option maxRecDepth 20000 in
theorem uw_460 : Cond.static yJ0_checkIndex_df160 ∈ uw := List.mem_filter.mpr ⟨List.mem_of_getElem? (i := 460) (by decide +kernel), by decide +kernel⟩
set_option maxRecDepth 20000 in
theorem uw_461 : Cond.code yJ0_checkIndex_df160 cJ0_checkIndex_df160 2 none ∈ uw := List.mem_filter.mpr ⟨List.mem_of_getElem? (i := 461) (by decide +kernel), by decide +kernel⟩
set_option maxRecDepth 20000 in
theorem uw_492 : Cond.methodLink RX2 64 yX2_refuse ∈ uw := List.mem_filter.mpr ⟨List.mem_of_getElem? (i := 492) (by decide +kernel), by decide +kernel⟩
set_option maxRecDepth 20000 in
theorem uw_494 : Cond.instanceMethod yX2_refuse ∈ uw := List.mem_filter.mpr ⟨List.mem_of_getElem? (i := 494) (by decide +kernel), by decide +kernel⟩
set_option maxRecDepth 20000 in
theorem uw_495 : Cond.code yX2_refuse cX2_refuse 2 none ∈ uw := List.mem_filter.mpr ⟨List.mem_of_getElem? (i := 495) (by decide +kernel), by decide +kernel⟩
set_option maxRecDepth 20000 in
theorem uw_496 : Cond.methodLink RX2 68 yX2_readNumber ∈ uw := List.mem_filter.mpr ⟨List.mem_of_getElem? (i := 496) (by decide +kernel), by decide +kernel⟩
set_option maxRecDepth 20000 in
theorem uw_498 : Cond.instanceMethod yX2_readNumber ∈ uw := List.mem_filter.mpr ⟨List.mem_of_getElem? (i := 498) (by decide +kernel), by decide +kernel⟩
set_option maxRecDepth 20000 in
theorem uw_499 : Cond.code yX2_readNumber cX2_readNumber 5 (some .int) ∈ uw := List.mem_filter.mpr ⟨List.mem_of_getElem? (i := 499) (by decide +kernel), by decide +kernel⟩
set_option maxRecDepth 20000 in
theorem uw_500 : Cond.methodLink RX2 72 yX2_readYesOrNo ∈ uw := List.mem_filter.mpr ⟨List.mem_of_getElem? (i := 500) (by decide +kernel), by decide +kernel⟩
set_option maxRecDepth 20000 in
theorem uw_502 : Cond.instanceMethod yX2_readYesOrNo ∈ uw := List.mem_filter.mpr ⟨List.mem_of_getElem? (i := 502) (by decide +kernel), by decide +kernel⟩
set_option maxRecDepth 20000 in
theorem uw_503 : Cond.code yX2_readYesOrNo cX2_readYesOrNo 2 (some .int) ∈ uw := List.mem_filter.mpr ⟨List.mem_of_getElem? (i := 503) (by decide +kernel), by decide +kernel⟩
set_option maxRecDepth 20000 in
theorem uw_506 : Cond.fieldLink RX2 75 "GrainDole$LawReader" "LEAST" "[I" ∈ uw := List.mem_filter.mpr ⟨List.mem_of_getElem? (i := 506) (by decide +kernel), by decide +kernel⟩
set_option maxRecDepth 20000 in
theorem uw_508 : Cond.fieldLink RX2 78 "GrainDole$LawReader" "MOST" "[I" ∈ uw := List.mem_filter.mpr ⟨List.mem_of_getElem? (i := 508) (by decide +kernel), by decide +kernel⟩
set_option maxRecDepth 20000 in
theorem uw_510 : Cond.methodLink RX2 48 yX2_goesOn ∈ uw := List.mem_filter.mpr ⟨List.mem_of_getElem? (i := 510) (by decide +kernel), by decide +kernel⟩
set_option maxRecDepth 20000 in
theorem uw_512 : Cond.instanceMethod yX2_goesOn ∈ uw := List.mem_filter.mpr ⟨List.mem_of_getElem? (i := 512) (by decide +kernel), by decide +kernel⟩
set_option maxRecDepth 20000 in
theorem uw_513 : Cond.code yX2_goesOn cX2_goesOn 1 (some .boolean) ∈ uw := List.mem_filter.mpr ⟨List.mem_of_getElem? (i := 513) (by decide +kernel), by decide +kernel⟩
set_option maxRecDepth 20000 in
theorem uw_514 : Cond.methodLink RX10 117 yX1_add ∈ uw := List.mem_filter.mpr ⟨List.mem_of_getElem? (i := 514) (by decide +kernel), by decide +kernel⟩
set_option maxRecDepth 20000 in
theorem uw_515 : Cond.instanceMethod yX1_add ∈ uw := List.mem_filter.mpr ⟨List.mem_of_getElem? (i := 515) (by decide +kernel), by decide +kernel⟩
set_option maxRecDepth 20000 in
theorem uw_516 : Cond.selects RX1 yX1_add yX1_add ∈ uw := List.mem_filter.mpr ⟨List.mem_of_getElem? (i := 516) (by decide +kernel), by decide +kernel⟩
set_option maxRecDepth 20000 in
theorem uw_517 : Cond.code yX1_add cX1_add 5 (some .int) ∈ uw := List.mem_filter.mpr ⟨List.mem_of_getElem? (i := 517) (by decide +kernel), by decide +kernel⟩
set_option maxRecDepth 20000 in
theorem uw_518 : Cond.methodLink RX1 25 yX1_isFull ∈ uw := List.mem_filter.mpr ⟨List.mem_of_getElem? (i := 518) (by decide +kernel), by decide +kernel⟩
set_option maxRecDepth 20000 in
theorem uw_519 : Cond.methodLink RX1 29 yX2_value ∈ uw := List.mem_filter.mpr ⟨List.mem_of_getElem? (i := 519) (by decide +kernel), by decide +kernel⟩
set_option maxRecDepth 20000 in
theorem uw_520 : Cond.instanceMethod yX2_value ∈ uw := List.mem_filter.mpr ⟨List.mem_of_getElem? (i := 520) (by decide +kernel), by decide +kernel⟩
set_option maxRecDepth 20000 in
theorem uw_521 : Cond.selects RX2 yX2_value yX2_value ∈ uw := List.mem_filter.mpr ⟨List.mem_of_getElem? (i := 521) (by decide +kernel), by decide +kernel⟩
set_option maxRecDepth 20000 in
theorem uw_522 : Cond.code yX2_value cX2_value 2 (some .int) ∈ uw := List.mem_filter.mpr ⟨List.mem_of_getElem? (i := 522) (by decide +kernel), by decide +kernel⟩
set_option maxRecDepth 20000 in
theorem uw_527 : Cond.code yX10_holds cX10_holds 5 (some .int) ∈ uw := List.mem_filter.mpr ⟨List.mem_of_getElem? (i := 527) (by decide +kernel), by decide +kernel⟩
set_option maxRecDepth 20000 in
theorem uw_528 : Cond.methodLink RX10 121 yX1_inForce ∈ uw := List.mem_filter.mpr ⟨List.mem_of_getElem? (i := 528) (by decide +kernel), by decide +kernel⟩
set_option maxRecDepth 20000 in
theorem uw_529 : Cond.instanceMethod yX1_inForce ∈ uw := List.mem_filter.mpr ⟨List.mem_of_getElem? (i := 529) (by decide +kernel), by decide +kernel⟩
set_option maxRecDepth 20000 in
theorem uw_530 : Cond.selects RX1 yX1_inForce yX1_inForce ∈ uw := List.mem_filter.mpr ⟨List.mem_of_getElem? (i := 530) (by decide +kernel), by decide +kernel⟩
set_option maxRecDepth 20000 in
theorem uw_531 : Cond.code yX1_inForce cX1_inForce 6 (some .int) ∈ uw := List.mem_filter.mpr ⟨List.mem_of_getElem? (i := 531) (by decide +kernel), by decide +kernel⟩
set_option maxRecDepth 20000 in
theorem uw_532 : Cond.methodLink RX10 125 yX1_value ∈ uw := List.mem_filter.mpr ⟨List.mem_of_getElem? (i := 532) (by decide +kernel), by decide +kernel⟩
set_option maxRecDepth 20000 in
theorem uw_533 : Cond.instanceMethod yX1_value ∈ uw := List.mem_filter.mpr ⟨List.mem_of_getElem? (i := 533) (by decide +kernel), by decide +kernel⟩
set_option maxRecDepth 20000 in
theorem uw_534 : Cond.selects RX1 yX1_value yX1_value ∈ uw := List.mem_filter.mpr ⟨List.mem_of_getElem? (i := 534) (by decide +kernel), by decide +kernel⟩
set_option maxRecDepth 20000 in
theorem uw_535 : Cond.code yX1_value cX1_value 3 (some .int) ∈ uw := List.mem_filter.mpr ⟨List.mem_of_getElem? (i := 535) (by decide +kernel), by decide +kernel⟩
set_option maxRecDepth 20000 in
theorem uw_536 : Cond.fieldLink RX1 35 "GrainDole$LawBook" "WITHOUT" "[I" ∈ uw := List.mem_filter.mpr ⟨List.mem_of_getElem? (i := 536) (by decide +kernel), by decide +kernel⟩
set_option maxRecDepth 20000 in
theorem uw_540 : Cond.code yX10_enter cX10_enter 6 (some .int) ∈ uw := List.mem_filter.mpr ⟨List.mem_of_getElem? (i := 540) (by decide +kernel), by decide +kernel⟩
set_option maxRecDepth 20000 in
theorem uw_541 : Cond.methodLink RX10 128 yX5_isFull ∈ uw := List.mem_filter.mpr ⟨List.mem_of_getElem? (i := 541) (by decide +kernel), by decide +kernel⟩
set_option maxRecDepth 20000 in
theorem uw_542 : Cond.instanceMethod yX5_isFull ∈ uw := List.mem_filter.mpr ⟨List.mem_of_getElem? (i := 542) (by decide +kernel), by decide +kernel⟩
set_option maxRecDepth 20000 in
theorem uw_543 : Cond.selects RX5 yX5_isFull yX5_isFull ∈ uw := List.mem_filter.mpr ⟨List.mem_of_getElem? (i := 543) (by decide +kernel), by decide +kernel⟩
set_option maxRecDepth 20000 in
theorem uw_544 : Cond.code yX5_isFull cX5_isFull 1 (some .boolean) ∈ uw := List.mem_filter.mpr ⟨List.mem_of_getElem? (i := 544) (by decide +kernel), by decide +kernel⟩
set_option maxRecDepth 20000 in
theorem uw_545 : Cond.methodLink RX10 129 yX5_canBe ∈ uw := List.mem_filter.mpr ⟨List.mem_of_getElem? (i := 545) (by decide +kernel), by decide +kernel⟩
set_option maxRecDepth 20000 in
theorem uw_546 : Cond.static yX5_canBe ∈ uw := List.mem_filter.mpr ⟨List.mem_of_getElem? (i := 546) (by decide +kernel), by decide +kernel⟩
set_option maxRecDepth 20000 in
theorem uw_547 : Cond.code yX5_canBe cX5_canBe 4 (some .boolean) ∈ uw := List.mem_filter.mpr ⟨List.mem_of_getElem? (i := 547) (by decide +kernel), by decide +kernel⟩
set_option maxRecDepth 20000 in
theorem uw_549 : Cond.static yX10_isPlace ∈ uw := List.mem_filter.mpr ⟨List.mem_of_getElem? (i := 549) (by decide +kernel), by decide +kernel⟩
set_option maxRecDepth 20000 in
theorem uw_550 : Cond.code yX10_isPlace cX10_isPlace 1 (some .boolean) ∈ uw := List.mem_filter.mpr ⟨List.mem_of_getElem? (i := 550) (by decide +kernel), by decide +kernel⟩
set_option maxRecDepth 20000 in
theorem uw_552 : Cond.static yX10_isCitizen ∈ uw := List.mem_filter.mpr ⟨List.mem_of_getElem? (i := 552) (by decide +kernel), by decide +kernel⟩
set_option maxRecDepth 20000 in
theorem uw_553 : Cond.code yX10_isCitizen cX10_isCitizen 1 (some .boolean) ∈ uw := List.mem_filter.mpr ⟨List.mem_of_getElem? (i := 553) (by decide +kernel), by decide +kernel⟩
set_option maxRecDepth 20000 in
theorem uw_555 : Cond.static yX10_isRank ∈ uw := List.mem_filter.mpr ⟨List.mem_of_getElem? (i := 555) (by decide +kernel), by decide +kernel⟩
set_option maxRecDepth 20000 in
theorem uw_556 : Cond.code yX10_isRank cX10_isRank 1 (some .boolean) ∈ uw := List.mem_filter.mpr ⟨List.mem_of_getElem? (i := 556) (by decide +kernel), by decide +kernel⟩
set_option maxRecDepth 20000 in
theorem uw_557 : Cond.methodLink RX10 133 yX5_add ∈ uw := List.mem_filter.mpr ⟨List.mem_of_getElem? (i := 557) (by decide +kernel), by decide +kernel⟩
set_option maxRecDepth 20000 in
theorem uw_558 : Cond.instanceMethod yX5_add ∈ uw := List.mem_filter.mpr ⟨List.mem_of_getElem? (i := 558) (by decide +kernel), by decide +kernel⟩
set_option maxRecDepth 20000 in
theorem uw_559 : Cond.selects RX5 yX5_add yX5_add ∈ uw := List.mem_filter.mpr ⟨List.mem_of_getElem? (i := 559) (by decide +kernel), by decide +kernel⟩
set_option maxRecDepth 20000 in
theorem uw_560 : Cond.code yX5_add cX5_add 7 (some .int) ∈ uw := List.mem_filter.mpr ⟨List.mem_of_getElem? (i := 560) (by decide +kernel), by decide +kernel⟩
set_option maxRecDepth 20000 in
theorem uw_561 : Cond.methodLink RX5 47 yX5_isFull ∈ uw := List.mem_filter.mpr ⟨List.mem_of_getElem? (i := 561) (by decide +kernel), by decide +kernel⟩
set_option maxRecDepth 20000 in
theorem uw_562 : Cond.methodLink RX5 51 yX5_putInOrder ∈ uw := List.mem_filter.mpr ⟨List.mem_of_getElem? (i := 562) (by decide +kernel), by decide +kernel⟩
set_option maxRecDepth 20000 in
theorem uw_564 : Cond.instanceMethod yX5_putInOrder ∈ uw := List.mem_filter.mpr ⟨List.mem_of_getElem? (i := 564) (by decide +kernel), by decide +kernel⟩
set_option maxRecDepth 20000 in
theorem uw_565 : Cond.code yX5_putInOrder cX5_putInOrder 3 none ∈ uw := List.mem_filter.mpr ⟨List.mem_of_getElem? (i := 565) (by decide +kernel), by decide +kernel⟩
set_option maxRecDepth 20000 in
theorem uw_569 : Cond.code yX10_isVoid cX10_isVoid 3 (some .int) ∈ uw := List.mem_filter.mpr ⟨List.mem_of_getElem? (i := 569) (by decide +kernel), by decide +kernel⟩
set_option maxRecDepth 20000 in
theorem uw_570 : Cond.methodLink RX10 136 yX5_has ∈ uw := List.mem_filter.mpr ⟨List.mem_of_getElem? (i := 570) (by decide +kernel), by decide +kernel⟩
set_option maxRecDepth 20000 in
theorem uw_571 : Cond.instanceMethod yX5_has ∈ uw := List.mem_filter.mpr ⟨List.mem_of_getElem? (i := 571) (by decide +kernel), by decide +kernel⟩
set_option maxRecDepth 20000 in
theorem uw_572 : Cond.selects RX5 yX5_has yX5_has ∈ uw := List.mem_filter.mpr ⟨List.mem_of_getElem? (i := 572) (by decide +kernel), by decide +kernel⟩
set_option maxRecDepth 20000 in
theorem uw_573 : Cond.code yX5_has cX5_has 2 (some .boolean) ∈ uw := List.mem_filter.mpr ⟨List.mem_of_getElem? (i := 573) (by decide +kernel), by decide +kernel⟩
set_option maxRecDepth 20000 in
theorem uw_574 : Cond.methodLink RX10 139 yX5_knownFrom ∈ uw := List.mem_filter.mpr ⟨List.mem_of_getElem? (i := 574) (by decide +kernel), by decide +kernel⟩
set_option maxRecDepth 20000 in
theorem uw_575 : Cond.instanceMethod yX5_knownFrom ∈ uw := List.mem_filter.mpr ⟨List.mem_of_getElem? (i := 575) (by decide +kernel), by decide +kernel⟩
set_option maxRecDepth 20000 in
theorem uw_576 : Cond.selects RX5 yX5_knownFrom yX5_knownFrom ∈ uw := List.mem_filter.mpr ⟨List.mem_of_getElem? (i := 576) (by decide +kernel), by decide +kernel⟩
set_option maxRecDepth 20000 in
theorem uw_577 : Cond.code yX5_knownFrom cX5_knownFrom 2 (some .int) ∈ uw := List.mem_filter.mpr ⟨List.mem_of_getElem? (i := 577) (by decide +kernel), by decide +kernel⟩
set_option maxRecDepth 20000 in
theorem uw_578 : Cond.methodLink RX5 55 yX5_has ∈ uw := List.mem_filter.mpr ⟨List.mem_of_getElem? (i := 578) (by decide +kernel), by decide +kernel⟩
set_option maxRecDepth 20000 in
theorem uw_579 : Cond.methodLink RX10 143 yX5_monthOf ∈ uw := List.mem_filter.mpr ⟨List.mem_of_getElem? (i := 579) (by decide +kernel), by decide +kernel⟩
set_option maxRecDepth 20000 in
theorem uw_580 : Cond.instanceMethod yX5_monthOf ∈ uw := List.mem_filter.mpr ⟨List.mem_of_getElem? (i := 580) (by decide +kernel), by decide +kernel⟩
set_option maxRecDepth 20000 in
theorem uw_581 : Cond.selects RX5 yX5_monthOf yX5_monthOf ∈ uw := List.mem_filter.mpr ⟨List.mem_of_getElem? (i := 581) (by decide +kernel), by decide +kernel⟩
set_option maxRecDepth 20000 in
theorem uw_582 : Cond.code yX5_monthOf cX5_monthOf 2 (some .int) ∈ uw := List.mem_filter.mpr ⟨List.mem_of_getElem? (i := 582) (by decide +kernel), by decide +kernel⟩
set_option maxRecDepth 20000 in
theorem uw_583 : Cond.methodLink RX10 146 yX6_draw ∈ uw := List.mem_filter.mpr ⟨List.mem_of_getElem? (i := 583) (by decide +kernel), by decide +kernel⟩
set_option maxRecDepth 20000 in
theorem uw_584 : Cond.instanceMethod yX6_draw ∈ uw := List.mem_filter.mpr ⟨List.mem_of_getElem? (i := 584) (by decide +kernel), by decide +kernel⟩
set_option maxRecDepth 20000 in
theorem uw_585 : Cond.selects RX6 yX6_draw yX6_draw ∈ uw := List.mem_filter.mpr ⟨List.mem_of_getElem? (i := 585) (by decide +kernel), by decide +kernel⟩
set_option maxRecDepth 20000 in
theorem uw_586 : Cond.code yX6_draw cX6_draw 3 none ∈ uw := List.mem_filter.mpr ⟨List.mem_of_getElem? (i := 586) (by decide +kernel), by decide +kernel⟩
set_option maxRecDepth 20000 in
theorem uw_587 : Cond.methodLink RX6 45 yX6_open ∈ uw := List.mem_filter.mpr ⟨List.mem_of_getElem? (i := 587) (by decide +kernel), by decide +kernel⟩
set_option maxRecDepth 20000 in
theorem uw_588 : Cond.instanceMethod yX6_open ∈ uw := List.mem_filter.mpr ⟨List.mem_of_getElem? (i := 588) (by decide +kernel), by decide +kernel⟩
set_option maxRecDepth 20000 in
theorem uw_589 : Cond.selects RX6 yX6_open yX6_open ∈ uw := List.mem_filter.mpr ⟨List.mem_of_getElem? (i := 589) (by decide +kernel), by decide +kernel⟩
set_option maxRecDepth 20000 in
theorem uw_590 : Cond.code yX6_open cX6_open 3 none ∈ uw := List.mem_filter.mpr ⟨List.mem_of_getElem? (i := 590) (by decide +kernel), by decide +kernel⟩
set_option maxRecDepth 20000 in
theorem uw_591 : Cond.methodLink RX6 52 yJ7_fill_53178 ∈ uw := List.mem_filter.mpr ⟨List.mem_of_getElem? (i := 591) (by decide +kernel), by decide +kernel⟩
set_option maxRecDepth 20000 in
theorem uw_592 : Cond.static yJ7_fill_53178 ∈ uw := List.mem_filter.mpr ⟨List.mem_of_getElem? (i := 592) (by decide +kernel), by decide +kernel⟩
set_option maxRecDepth 20000 in
theorem uw_593 : Cond.code yJ7_fill_53178 cJ7_fill_53178 4 none ∈ uw := List.mem_filter.mpr ⟨List.mem_of_getElem? (i := 593) (by decide +kernel), by decide +kernel⟩
set_option maxRecDepth 20000 in
theorem uw_594 : Cond.methodLink RX6 49 yX6_advance ∈ uw := List.mem_filter.mpr ⟨List.mem_of_getElem? (i := 594) (by decide +kernel), by decide +kernel⟩
set_option maxRecDepth 20000 in
theorem uw_595 : Cond.instanceMethod yX6_advance ∈ uw := List.mem_filter.mpr ⟨List.mem_of_getElem? (i := 595) (by decide +kernel), by decide +kernel⟩
set_option maxRecDepth 20000 in
theorem uw_596 : Cond.selects RX6 yX6_advance yX6_advance ∈ uw := List.mem_filter.mpr ⟨List.mem_of_getElem? (i := 596) (by decide +kernel), by decide +kernel⟩
set_option maxRecDepth 20000 in
theorem uw_597 : Cond.code yX6_advance cX6_advance 3 none ∈ uw := List.mem_filter.mpr ⟨List.mem_of_getElem? (i := 597) (by decide +kernel), by decide +kernel⟩
set_option maxRecDepth 20000 in
theorem uw_598 : Cond.methodLink RX6 58 yX5_size ∈ uw := List.mem_filter.mpr ⟨List.mem_of_getElem? (i := 598) (by decide +kernel), by decide +kernel⟩
set_option maxRecDepth 20000 in
theorem uw_599 : Cond.instanceMethod yX5_size ∈ uw := List.mem_filter.mpr ⟨List.mem_of_getElem? (i := 599) (by decide +kernel), by decide +kernel⟩
set_option maxRecDepth 20000 in
theorem uw_600 : Cond.selects RX5 yX5_size yX5_size ∈ uw := List.mem_filter.mpr ⟨List.mem_of_getElem? (i := 600) (by decide +kernel), by decide +kernel⟩
set_option maxRecDepth 20000 in
theorem uw_601 : Cond.code yX5_size cX5_size 1 (some .int) ∈ uw := List.mem_filter.mpr ⟨List.mem_of_getElem? (i := 601) (by decide +kernel), by decide +kernel⟩
set_option maxRecDepth 20000 in
theorem uw_602 : Cond.methodLink RX6 62 yX5_inOrder ∈ uw := List.mem_filter.mpr ⟨List.mem_of_getElem? (i := 602) (by decide +kernel), by decide +kernel⟩
set_option maxRecDepth 20000 in
theorem uw_603 : Cond.instanceMethod yX5_inOrder ∈ uw := List.mem_filter.mpr ⟨List.mem_of_getElem? (i := 603) (by decide +kernel), by decide +kernel⟩
set_option maxRecDepth 20000 in
theorem uw_604 : Cond.selects RX5 yX5_inOrder yX5_inOrder ∈ uw := List.mem_filter.mpr ⟨List.mem_of_getElem? (i := 604) (by decide +kernel), by decide +kernel⟩
set_option maxRecDepth 20000 in
theorem uw_605 : Cond.code yX5_inOrder cX5_inOrder 2 (some .int) ∈ uw := List.mem_filter.mpr ⟨List.mem_of_getElem? (i := 605) (by decide +kernel), by decide +kernel⟩
set_option maxRecDepth 20000 in
theorem uw_606 : Cond.methodLink RX6 66 yX5_monthOf ∈ uw := List.mem_filter.mpr ⟨List.mem_of_getElem? (i := 606) (by decide +kernel), by decide +kernel⟩
set_option maxRecDepth 20000 in
theorem uw_607 : Cond.methodLink RX6 69 yX5_has ∈ uw := List.mem_filter.mpr ⟨List.mem_of_getElem? (i := 607) (by decide +kernel), by decide +kernel⟩
set_option maxRecDepth 20000 in
theorem uw_608 : Cond.methodLink RX6 73 yX5_knownFrom ∈ uw := List.mem_filter.mpr ⟨List.mem_of_getElem? (i := 608) (by decide +kernel), by decide +kernel⟩
set_option maxRecDepth 20000 in
theorem uw_609 : Cond.methodLink RX6 76 yX6_comesAbout ∈ uw := List.mem_filter.mpr ⟨List.mem_of_getElem? (i := 609) (by decide +kernel), by decide +kernel⟩
set_option maxRecDepth 20000 in
theorem uw_611 : Cond.instanceMethod yX6_comesAbout ∈ uw := List.mem_filter.mpr ⟨List.mem_of_getElem? (i := 611) (by decide +kernel), by decide +kernel⟩
set_option maxRecDepth 20000 in
theorem uw_612 : Cond.code yX6_comesAbout cX6_comesAbout 4 (some .boolean) ∈ uw := List.mem_filter.mpr ⟨List.mem_of_getElem? (i := 612) (by decide +kernel), by decide +kernel⟩
set_option maxRecDepth 20000 in
theorem uw_613 : Cond.methodLink RX6 85 yX5_placeOf ∈ uw := List.mem_filter.mpr ⟨List.mem_of_getElem? (i := 613) (by decide +kernel), by decide +kernel⟩
set_option maxRecDepth 20000 in
theorem uw_614 : Cond.instanceMethod yX5_placeOf ∈ uw := List.mem_filter.mpr ⟨List.mem_of_getElem? (i := 614) (by decide +kernel), by decide +kernel⟩
set_option maxRecDepth 20000 in
theorem uw_615 : Cond.selects RX5 yX5_placeOf yX5_placeOf ∈ uw := List.mem_filter.mpr ⟨List.mem_of_getElem? (i := 615) (by decide +kernel), by decide +kernel⟩
set_option maxRecDepth 20000 in
theorem uw_616 : Cond.code yX5_placeOf cX5_placeOf 2 (some .int) ∈ uw := List.mem_filter.mpr ⟨List.mem_of_getElem? (i := 616) (by decide +kernel), by decide +kernel⟩
set_option maxRecDepth 20000 in
theorem uw_617 : Cond.methodLink RX6 88 yX5_citizenOf ∈ uw := List.mem_filter.mpr ⟨List.mem_of_getElem? (i := 617) (by decide +kernel), by decide +kernel⟩
set_option maxRecDepth 20000 in
theorem uw_618 : Cond.instanceMethod yX5_citizenOf ∈ uw := List.mem_filter.mpr ⟨List.mem_of_getElem? (i := 618) (by decide +kernel), by decide +kernel⟩
set_option maxRecDepth 20000 in
theorem uw_619 : Cond.selects RX5 yX5_citizenOf yX5_citizenOf ∈ uw := List.mem_filter.mpr ⟨List.mem_of_getElem? (i := 619) (by decide +kernel), by decide +kernel⟩
set_option maxRecDepth 20000 in
theorem uw_620 : Cond.code yX5_citizenOf cX5_citizenOf 2 (some .int) ∈ uw := List.mem_filter.mpr ⟨List.mem_of_getElem? (i := 620) (by decide +kernel), by decide +kernel⟩
set_option maxRecDepth 20000 in
theorem uw_621 : Cond.methodLink RX6 91 yX5_kindOf ∈ uw := List.mem_filter.mpr ⟨List.mem_of_getElem? (i := 621) (by decide +kernel), by decide +kernel⟩
set_option maxRecDepth 20000 in
theorem uw_622 : Cond.instanceMethod yX5_kindOf ∈ uw := List.mem_filter.mpr ⟨List.mem_of_getElem? (i := 622) (by decide +kernel), by decide +kernel⟩
set_option maxRecDepth 20000 in
theorem uw_623 : Cond.selects RX5 yX5_kindOf yX5_kindOf ∈ uw := List.mem_filter.mpr ⟨List.mem_of_getElem? (i := 623) (by decide +kernel), by decide +kernel⟩
set_option maxRecDepth 20000 in
theorem uw_624 : Cond.code yX5_kindOf cX5_kindOf 2 (some .int) ∈ uw := List.mem_filter.mpr ⟨List.mem_of_getElem? (i := 624) (by decide +kernel), by decide +kernel⟩
set_option maxRecDepth 20000 in
theorem uw_625 : Cond.methodLink RX6 94 yX5_rankOf ∈ uw := List.mem_filter.mpr ⟨List.mem_of_getElem? (i := 625) (by decide +kernel), by decide +kernel⟩
set_option maxRecDepth 20000 in
theorem uw_626 : Cond.instanceMethod yX5_rankOf ∈ uw := List.mem_filter.mpr ⟨List.mem_of_getElem? (i := 626) (by decide +kernel), by decide +kernel⟩
set_option maxRecDepth 20000 in
theorem uw_627 : Cond.selects RX5 yX5_rankOf yX5_rankOf ∈ uw := List.mem_filter.mpr ⟨List.mem_of_getElem? (i := 627) (by decide +kernel), by decide +kernel⟩
set_option maxRecDepth 20000 in
theorem uw_628 : Cond.code yX5_rankOf cX5_rankOf 2 (some .int) ∈ uw := List.mem_filter.mpr ⟨List.mem_of_getElem? (i := 628) (by decide +kernel), by decide +kernel⟩
set_option maxRecDepth 20000 in
theorem uw_629 : Cond.methodLink RX6 97 yX6_enrol ∈ uw := List.mem_filter.mpr ⟨List.mem_of_getElem? (i := 629) (by decide +kernel), by decide +kernel⟩
set_option maxRecDepth 20000 in
theorem uw_631 : Cond.instanceMethod yX6_enrol ∈ uw := List.mem_filter.mpr ⟨List.mem_of_getElem? (i := 631) (by decide +kernel), by decide +kernel⟩
set_option maxRecDepth 20000 in
theorem uw_632 : Cond.code yX6_enrol cX6_enrol 4 (some .boolean) ∈ uw := List.mem_filter.mpr ⟨List.mem_of_getElem? (i := 632) (by decide +kernel), by decide +kernel⟩
set_option maxRecDepth 20000 in
theorem uw_634 : Cond.methodLink RX6 110 yX6_canTakePlace ∈ uw := List.mem_filter.mpr ⟨List.mem_of_getElem? (i := 634) (by decide +kernel), by decide +kernel⟩
set_option maxRecDepth 20000 in
theorem uw_636 : Cond.instanceMethod yX6_canTakePlace ∈ uw := List.mem_filter.mpr ⟨List.mem_of_getElem? (i := 636) (by decide +kernel), by decide +kernel⟩
set_option maxRecDepth 20000 in
theorem uw_637 : Cond.code yX6_canTakePlace cX6_canTakePlace 2 (some .boolean) ∈ uw := List.mem_filter.mpr ⟨List.mem_of_getElem? (i := 637) (by decide +kernel), by decide +kernel⟩
set_option maxRecDepth 20000 in
theorem uw_639 : Cond.methodLink RX6 113 yX6_seat ∈ uw := List.mem_filter.mpr ⟨List.mem_of_getElem? (i := 639) (by decide +kernel), by decide +kernel⟩
set_option maxRecDepth 20000 in
theorem uw_641 : Cond.instanceMethod yX6_seat ∈ uw := List.mem_filter.mpr ⟨List.mem_of_getElem? (i := 641) (by decide +kernel), by decide +kernel⟩
set_option maxRecDepth 20000 in
theorem uw_642 : Cond.code yX6_seat cX6_seat 3 none ∈ uw := List.mem_filter.mpr ⟨List.mem_of_getElem? (i := 642) (by decide +kernel), by decide +kernel⟩
set_option maxRecDepth 20000 in
theorem uw_643 : Cond.methodLink RX6 101 yX6_bury ∈ uw := List.mem_filter.mpr ⟨List.mem_of_getElem? (i := 643) (by decide +kernel), by decide +kernel⟩
set_option maxRecDepth 20000 in
theorem uw_645 : Cond.instanceMethod yX6_bury ∈ uw := List.mem_filter.mpr ⟨List.mem_of_getElem? (i := 645) (by decide +kernel), by decide +kernel⟩
set_option maxRecDepth 20000 in
theorem uw_646 : Cond.code yX6_bury cX6_bury 2 (some .boolean) ∈ uw := List.mem_filter.mpr ⟨List.mem_of_getElem? (i := 646) (by decide +kernel), by decide +kernel⟩
set_option maxRecDepth 20000 in
theorem uw_647 : Cond.methodLink RX6 120 yX6_vacate ∈ uw := List.mem_filter.mpr ⟨List.mem_of_getElem? (i := 647) (by decide +kernel), by decide +kernel⟩
set_option maxRecDepth 20000 in
theorem uw_649 : Cond.instanceMethod yX6_vacate ∈ uw := List.mem_filter.mpr ⟨List.mem_of_getElem? (i := 649) (by decide +kernel), by decide +kernel⟩
set_option maxRecDepth 20000 in
theorem uw_650 : Cond.code yX6_vacate cX6_vacate 3 none ∈ uw := List.mem_filter.mpr ⟨List.mem_of_getElem? (i := 650) (by decide +kernel), by decide +kernel⟩
set_option maxRecDepth 20000 in
theorem uw_651 : Cond.methodLink RX6 104 yX6_sell ∈ uw := List.mem_filter.mpr ⟨List.mem_of_getElem? (i := 651) (by decide +kernel), by decide +kernel⟩
set_option maxRecDepth 20000 in
theorem uw_653 : Cond.instanceMethod yX6_sell ∈ uw := List.mem_filter.mpr ⟨List.mem_of_getElem? (i := 653) (by decide +kernel), by decide +kernel⟩
set_option maxRecDepth 20000 in
theorem uw_654 : Cond.code yX6_sell cX6_sell 5 (some .boolean) ∈ uw := List.mem_filter.mpr ⟨List.mem_of_getElem? (i := 654) (by decide +kernel), by decide +kernel⟩
set_option maxRecDepth 20000 in
theorem uw_655 : Cond.methodLink RX6 123 yX1_inForce ∈ uw := List.mem_filter.mpr ⟨List.mem_of_getElem? (i := 655) (by decide +kernel), by decide +kernel⟩
set_option maxRecDepth 20000 in
theorem uw_656 : Cond.methodLink RX6 129 yX1_value ∈ uw := List.mem_filter.mpr ⟨List.mem_of_getElem? (i := 656) (by decide +kernel), by decide +kernel⟩
set_option maxRecDepth 20000 in
theorem uw_657 : Cond.methodLink RX6 82 yX6_citizenAt ∈ uw := List.mem_filter.mpr ⟨List.mem_of_getElem? (i := 657) (by decide +kernel), by decide +kernel⟩
set_option maxRecDepth 20000 in
theorem uw_658 : Cond.instanceMethod yX6_citizenAt ∈ uw := List.mem_filter.mpr ⟨List.mem_of_getElem? (i := 658) (by decide +kernel), by decide +kernel⟩
set_option maxRecDepth 20000 in
theorem uw_659 : Cond.selects RX6 yX6_citizenAt yX6_citizenAt ∈ uw := List.mem_filter.mpr ⟨List.mem_of_getElem? (i := 659) (by decide +kernel), by decide +kernel⟩
set_option maxRecDepth 20000 in
theorem uw_660 : Cond.code yX6_citizenAt cX6_citizenAt 2 (some .int) ∈ uw := List.mem_filter.mpr ⟨List.mem_of_getElem? (i := 660) (by decide +kernel), by decide +kernel⟩
set_option maxRecDepth 20000 in
theorem uw_661 : Cond.methodLink RX6 107 yX6_strike ∈ uw := List.mem_filter.mpr ⟨List.mem_of_getElem? (i := 661) (by decide +kernel), by decide +kernel⟩
set_option maxRecDepth 20000 in
theorem uw_663 : Cond.instanceMethod yX6_strike ∈ uw := List.mem_filter.mpr ⟨List.mem_of_getElem? (i := 663) (by decide +kernel), by decide +kernel⟩
set_option maxRecDepth 20000 in
theorem uw_664 : Cond.code yX6_strike cX6_strike 2 (some .boolean) ∈ uw := List.mem_filter.mpr ⟨List.mem_of_getElem? (i := 664) (by decide +kernel), by decide +kernel⟩
set_option maxRecDepth 20000 in
theorem uw_665 : Cond.methodLink RX10 150 yX6_wasVoid ∈ uw := List.mem_filter.mpr ⟨List.mem_of_getElem? (i := 665) (by decide +kernel), by decide +kernel⟩
set_option maxRecDepth 20000 in
theorem uw_666 : Cond.instanceMethod yX6_wasVoid ∈ uw := List.mem_filter.mpr ⟨List.mem_of_getElem? (i := 666) (by decide +kernel), by decide +kernel⟩
set_option maxRecDepth 20000 in
theorem uw_667 : Cond.selects RX6 yX6_wasVoid yX6_wasVoid ∈ uw := List.mem_filter.mpr ⟨List.mem_of_getElem? (i := 667) (by decide +kernel), by decide +kernel⟩
set_option maxRecDepth 20000 in
theorem uw_668 : Cond.code yX6_wasVoid cX6_wasVoid 2 (some .boolean) ∈ uw := List.mem_filter.mpr ⟨List.mem_of_getElem? (i := 668) (by decide +kernel), by decide +kernel⟩
set_option maxRecDepth 20000 in
theorem uw_672 : Cond.code yX10_holder cX10_holder 4 (some .int) ∈ uw := List.mem_filter.mpr ⟨List.mem_of_getElem? (i := 672) (by decide +kernel), by decide +kernel⟩
set_option maxRecDepth 20000 in
theorem uw_673 : Cond.methodLink RX10 153 yX10_isPlace ∈ uw := List.mem_filter.mpr ⟨List.mem_of_getElem? (i := 673) (by decide +kernel), by decide +kernel⟩
set_option maxRecDepth 20000 in
theorem uw_674 : Cond.methodLink RX10 156 yX6_citizenAt ∈ uw := List.mem_filter.mpr ⟨List.mem_of_getElem? (i := 674) (by decide +kernel), by decide +kernel⟩
set_option maxRecDepth 20000 in
theorem uw_678 : Cond.code yX10_rank cX10_rank 4 (some .int) ∈ uw := List.mem_filter.mpr ⟨List.mem_of_getElem? (i := 678) (by decide +kernel), by decide +kernel⟩
set_option maxRecDepth 20000 in
theorem uw_679 : Cond.methodLink RX10 159 yX6_rankAt ∈ uw := List.mem_filter.mpr ⟨List.mem_of_getElem? (i := 679) (by decide +kernel), by decide +kernel⟩
set_option maxRecDepth 20000 in
theorem uw_680 : Cond.instanceMethod yX6_rankAt ∈ uw := List.mem_filter.mpr ⟨List.mem_of_getElem? (i := 680) (by decide +kernel), by decide +kernel⟩
set_option maxRecDepth 20000 in
theorem uw_681 : Cond.selects RX6 yX6_rankAt yX6_rankAt ∈ uw := List.mem_filter.mpr ⟨List.mem_of_getElem? (i := 681) (by decide +kernel), by decide +kernel⟩
set_option maxRecDepth 20000 in
theorem uw_682 : Cond.code yX6_rankAt cX6_rankAt 2 (some .int) ∈ uw := List.mem_filter.mpr ⟨List.mem_of_getElem? (i := 682) (by decide +kernel), by decide +kernel⟩
set_option maxRecDepth 20000 in
theorem uw_686 : Cond.code yX10_ship cX10_ship 3 (some .int) ∈ uw := List.mem_filter.mpr ⟨List.mem_of_getElem? (i := 686) (by decide +kernel), by decide +kernel⟩
set_option maxRecDepth 20000 in
theorem uw_687 : Cond.methodLink RX10 162 yX0_isFull ∈ uw := List.mem_filter.mpr ⟨List.mem_of_getElem? (i := 687) (by decide +kernel), by decide +kernel⟩
set_option maxRecDepth 20000 in
theorem uw_688 : Cond.instanceMethod yX0_isFull ∈ uw := List.mem_filter.mpr ⟨List.mem_of_getElem? (i := 688) (by decide +kernel), by decide +kernel⟩
set_option maxRecDepth 20000 in
theorem uw_689 : Cond.selects RX0 yX0_isFull yX0_isFull ∈ uw := List.mem_filter.mpr ⟨List.mem_of_getElem? (i := 689) (by decide +kernel), by decide +kernel⟩
set_option maxRecDepth 20000 in
theorem uw_690 : Cond.code yX0_isFull cX0_isFull 1 (some .boolean) ∈ uw := List.mem_filter.mpr ⟨List.mem_of_getElem? (i := 690) (by decide +kernel), by decide +kernel⟩
set_option maxRecDepth 20000 in
theorem uw_691 : Cond.methodLink RX10 163 yX10_isCargo ∈ uw := List.mem_filter.mpr ⟨List.mem_of_getElem? (i := 691) (by decide +kernel), by decide +kernel⟩
set_option maxRecDepth 20000 in
theorem uw_692 : Cond.static yX10_isCargo ∈ uw := List.mem_filter.mpr ⟨List.mem_of_getElem? (i := 692) (by decide +kernel), by decide +kernel⟩
set_option maxRecDepth 20000 in
theorem uw_693 : Cond.code yX10_isCargo cX10_isCargo 1 (some .boolean) ∈ uw := List.mem_filter.mpr ⟨List.mem_of_getElem? (i := 693) (by decide +kernel), by decide +kernel⟩
set_option maxRecDepth 20000 in
theorem uw_694 : Cond.methodLink RX10 166 yX0_add ∈ uw := List.mem_filter.mpr ⟨List.mem_of_getElem? (i := 694) (by decide +kernel), by decide +kernel⟩
set_option maxRecDepth 20000 in
theorem uw_695 : Cond.instanceMethod yX0_add ∈ uw := List.mem_filter.mpr ⟨List.mem_of_getElem? (i := 695) (by decide +kernel), by decide +kernel⟩
set_option maxRecDepth 20000 in
theorem uw_696 : Cond.selects RX0 yX0_add yX0_add ∈ uw := List.mem_filter.mpr ⟨List.mem_of_getElem? (i := 696) (by decide +kernel), by decide +kernel⟩
set_option maxRecDepth 20000 in
theorem uw_697 : Cond.code yX0_add cX0_add 3 (some .int) ∈ uw := List.mem_filter.mpr ⟨List.mem_of_getElem? (i := 697) (by decide +kernel), by decide +kernel⟩
set_option maxRecDepth 20000 in
theorem uw_698 : Cond.methodLink RX0 22 yX0_isFull ∈ uw := List.mem_filter.mpr ⟨List.mem_of_getElem? (i := 698) (by decide +kernel), by decide +kernel⟩
set_option maxRecDepth 20000 in
theorem uw_702 : Cond.code yX10_room cX10_room 3 (some .int) ∈ uw := List.mem_filter.mpr ⟨List.mem_of_getElem? (i := 702) (by decide +kernel), by decide +kernel⟩
set_option maxRecDepth 20000 in
theorem uw_703 : Cond.methodLink RX10 168 yX10_isGranary ∈ uw := List.mem_filter.mpr ⟨List.mem_of_getElem? (i := 703) (by decide +kernel), by decide +kernel⟩
set_option maxRecDepth 20000 in
theorem uw_704 : Cond.static yX10_isGranary ∈ uw := List.mem_filter.mpr ⟨List.mem_of_getElem? (i := 704) (by decide +kernel), by decide +kernel⟩
set_option maxRecDepth 20000 in
theorem uw_705 : Cond.code yX10_isGranary cX10_isGranary 1 (some .boolean) ∈ uw := List.mem_filter.mpr ⟨List.mem_of_getElem? (i := 705) (by decide +kernel), by decide +kernel⟩
set_option maxRecDepth 20000 in
theorem uw_706 : Cond.methodLink RX10 171 yX7_lyingIn ∈ uw := List.mem_filter.mpr ⟨List.mem_of_getElem? (i := 706) (by decide +kernel), by decide +kernel⟩
set_option maxRecDepth 20000 in
theorem uw_707 : Cond.instanceMethod yX7_lyingIn ∈ uw := List.mem_filter.mpr ⟨List.mem_of_getElem? (i := 707) (by decide +kernel), by decide +kernel⟩
set_option maxRecDepth 20000 in
theorem uw_708 : Cond.selects RX7 yX7_lyingIn yX7_lyingIn ∈ uw := List.mem_filter.mpr ⟨List.mem_of_getElem? (i := 708) (by decide +kernel), by decide +kernel⟩
set_option maxRecDepth 20000 in
theorem uw_709 : Cond.code yX7_lyingIn cX7_lyingIn 2 (some .int) ∈ uw := List.mem_filter.mpr ⟨List.mem_of_getElem? (i := 709) (by decide +kernel), by decide +kernel⟩
set_option maxRecDepth 20000 in
theorem uw_711 : Cond.methodLink RX10 174 yX7_changeRoom ∈ uw := List.mem_filter.mpr ⟨List.mem_of_getElem? (i := 711) (by decide +kernel), by decide +kernel⟩
set_option maxRecDepth 20000 in
theorem uw_712 : Cond.instanceMethod yX7_changeRoom ∈ uw := List.mem_filter.mpr ⟨List.mem_of_getElem? (i := 712) (by decide +kernel), by decide +kernel⟩
set_option maxRecDepth 20000 in
theorem uw_713 : Cond.selects RX7 yX7_changeRoom yX7_changeRoom ∈ uw := List.mem_filter.mpr ⟨List.mem_of_getElem? (i := 713) (by decide +kernel), by decide +kernel⟩
set_option maxRecDepth 20000 in
theorem uw_714 : Cond.code yX7_changeRoom cX7_changeRoom 4 (some .int) ∈ uw := List.mem_filter.mpr ⟨List.mem_of_getElem? (i := 714) (by decide +kernel), by decide +kernel⟩
set_option maxRecDepth 20000 in
theorem uw_718 : Cond.code yX10_land cX10_land 6 (some .int) ∈ uw := List.mem_filter.mpr ⟨List.mem_of_getElem? (i := 718) (by decide +kernel), by decide +kernel⟩
set_option maxRecDepth 20000 in
theorem uw_719 : Cond.methodLink RX10 177 yX7_isFull ∈ uw := List.mem_filter.mpr ⟨List.mem_of_getElem? (i := 719) (by decide +kernel), by decide +kernel⟩
set_option maxRecDepth 20000 in
theorem uw_720 : Cond.instanceMethod yX7_isFull ∈ uw := List.mem_filter.mpr ⟨List.mem_of_getElem? (i := 720) (by decide +kernel), by decide +kernel⟩
set_option maxRecDepth 20000 in
theorem uw_721 : Cond.selects RX7 yX7_isFull yX7_isFull ∈ uw := List.mem_filter.mpr ⟨List.mem_of_getElem? (i := 721) (by decide +kernel), by decide +kernel⟩
set_option maxRecDepth 20000 in
theorem uw_722 : Cond.code yX7_isFull cX7_isFull 1 (some .boolean) ∈ uw := List.mem_filter.mpr ⟨List.mem_of_getElem? (i := 722) (by decide +kernel), by decide +kernel⟩
set_option maxRecDepth 20000 in
theorem uw_723 : Cond.methodLink RX10 178 yX0_has ∈ uw := List.mem_filter.mpr ⟨List.mem_of_getElem? (i := 723) (by decide +kernel), by decide +kernel⟩
set_option maxRecDepth 20000 in
theorem uw_724 : Cond.instanceMethod yX0_has ∈ uw := List.mem_filter.mpr ⟨List.mem_of_getElem? (i := 724) (by decide +kernel), by decide +kernel⟩
set_option maxRecDepth 20000 in
theorem uw_725 : Cond.selects RX0 yX0_has yX0_has ∈ uw := List.mem_filter.mpr ⟨List.mem_of_getElem? (i := 725) (by decide +kernel), by decide +kernel⟩
set_option maxRecDepth 20000 in
theorem uw_726 : Cond.code yX0_has cX0_has 2 (some .boolean) ∈ uw := List.mem_filter.mpr ⟨List.mem_of_getElem? (i := 726) (by decide +kernel), by decide +kernel⟩
set_option maxRecDepth 20000 in
theorem uw_727 : Cond.methodLink RX10 179 yX7_spaceIn ∈ uw := List.mem_filter.mpr ⟨List.mem_of_getElem? (i := 727) (by decide +kernel), by decide +kernel⟩
set_option maxRecDepth 20000 in
theorem uw_728 : Cond.instanceMethod yX7_spaceIn ∈ uw := List.mem_filter.mpr ⟨List.mem_of_getElem? (i := 728) (by decide +kernel), by decide +kernel⟩
set_option maxRecDepth 20000 in
theorem uw_729 : Cond.selects RX7 yX7_spaceIn yX7_spaceIn ∈ uw := List.mem_filter.mpr ⟨List.mem_of_getElem? (i := 729) (by decide +kernel), by decide +kernel⟩
set_option maxRecDepth 20000 in
theorem uw_730 : Cond.code yX7_spaceIn cX7_spaceIn 2 (some .int) ∈ uw := List.mem_filter.mpr ⟨List.mem_of_getElem? (i := 730) (by decide +kernel), by decide +kernel⟩
set_option maxRecDepth 20000 in
theorem uw_731 : Cond.methodLink RX10 182 yJ9_min_7cf53 ∈ uw := List.mem_filter.mpr ⟨List.mem_of_getElem? (i := 731) (by decide +kernel), by decide +kernel⟩
set_option maxRecDepth 20000 in
theorem uw_732 : Cond.static yJ9_min_7cf53 ∈ uw := List.mem_filter.mpr ⟨List.mem_of_getElem? (i := 732) (by decide +kernel), by decide +kernel⟩
set_option maxRecDepth 20000 in
theorem uw_733 : Cond.code yJ9_min_7cf53 cJ9_min_7cf53 2 (some .int) ∈ uw := List.mem_filter.mpr ⟨List.mem_of_getElem? (i := 733) (by decide +kernel), by decide +kernel⟩
set_option maxRecDepth 20000 in
theorem uw_734 : Cond.methodLink RX10 187 yX7_add ∈ uw := List.mem_filter.mpr ⟨List.mem_of_getElem? (i := 734) (by decide +kernel), by decide +kernel⟩
set_option maxRecDepth 20000 in
theorem uw_735 : Cond.instanceMethod yX7_add ∈ uw := List.mem_filter.mpr ⟨List.mem_of_getElem? (i := 735) (by decide +kernel), by decide +kernel⟩
set_option maxRecDepth 20000 in
theorem uw_736 : Cond.selects RX7 yX7_add yX7_add ∈ uw := List.mem_filter.mpr ⟨List.mem_of_getElem? (i := 736) (by decide +kernel), by decide +kernel⟩
set_option maxRecDepth 20000 in
theorem uw_737 : Cond.code yX7_add cX7_add 6 none ∈ uw := List.mem_filter.mpr ⟨List.mem_of_getElem? (i := 737) (by decide +kernel), by decide +kernel⟩
set_option maxRecDepth 20000 in
theorem uw_738 : Cond.methodLink RX7 48 yX7_isFull ∈ uw := List.mem_filter.mpr ⟨List.mem_of_getElem? (i := 738) (by decide +kernel), by decide +kernel⟩
set_option maxRecDepth 20000 in
theorem uw_742 : Cond.code yX10_lot cX10_lot 3 (some .int) ∈ uw := List.mem_filter.mpr ⟨List.mem_of_getElem? (i := 742) (by decide +kernel), by decide +kernel⟩
set_option maxRecDepth 20000 in
theorem uw_743 : Cond.methodLink RX10 190 yX7_has ∈ uw := List.mem_filter.mpr ⟨List.mem_of_getElem? (i := 743) (by decide +kernel), by decide +kernel⟩
set_option maxRecDepth 20000 in
theorem uw_744 : Cond.instanceMethod yX7_has ∈ uw := List.mem_filter.mpr ⟨List.mem_of_getElem? (i := 744) (by decide +kernel), by decide +kernel⟩
set_option maxRecDepth 20000 in
theorem uw_745 : Cond.selects RX7 yX7_has yX7_has ∈ uw := List.mem_filter.mpr ⟨List.mem_of_getElem? (i := 745) (by decide +kernel), by decide +kernel⟩
set_option maxRecDepth 20000 in
theorem uw_746 : Cond.code yX7_has cX7_has 2 (some .boolean) ∈ uw := List.mem_filter.mpr ⟨List.mem_of_getElem? (i := 746) (by decide +kernel), by decide +kernel⟩
set_option maxRecDepth 20000 in
theorem uw_747 : Cond.methodLink RX10 191 yX7_fact ∈ uw := List.mem_filter.mpr ⟨List.mem_of_getElem? (i := 747) (by decide +kernel), by decide +kernel⟩
set_option maxRecDepth 20000 in
theorem uw_748 : Cond.instanceMethod yX7_fact ∈ uw := List.mem_filter.mpr ⟨List.mem_of_getElem? (i := 748) (by decide +kernel), by decide +kernel⟩
set_option maxRecDepth 20000 in
theorem uw_749 : Cond.selects RX7 yX7_fact yX7_fact ∈ uw := List.mem_filter.mpr ⟨List.mem_of_getElem? (i := 749) (by decide +kernel), by decide +kernel⟩
set_option maxRecDepth 20000 in
theorem uw_750 : Cond.code yX7_fact cX7_fact 3 (some .int) ∈ uw := List.mem_filter.mpr ⟨List.mem_of_getElem? (i := 750) (by decide +kernel), by decide +kernel⟩
set_option maxRecDepth 20000 in
theorem uw_751 : Cond.methodLink RX7 52 yX7_has ∈ uw := List.mem_filter.mpr ⟨List.mem_of_getElem? (i := 751) (by decide +kernel), by decide +kernel⟩
set_option maxRecDepth 20000 in
theorem uw_755 : Cond.code yX10_premium cX10_premium 5 (some .int) ∈ uw := List.mem_filter.mpr ⟨List.mem_of_getElem? (i := 755) (by decide +kernel), by decide +kernel⟩
set_option maxRecDepth 20000 in
theorem uw_756 : Cond.methodLink RX10 194 yX0_monthOf ∈ uw := List.mem_filter.mpr ⟨List.mem_of_getElem? (i := 756) (by decide +kernel), by decide +kernel⟩
set_option maxRecDepth 20000 in
theorem uw_757 : Cond.instanceMethod yX0_monthOf ∈ uw := List.mem_filter.mpr ⟨List.mem_of_getElem? (i := 757) (by decide +kernel), by decide +kernel⟩
set_option maxRecDepth 20000 in
theorem uw_758 : Cond.selects RX0 yX0_monthOf yX0_monthOf ∈ uw := List.mem_filter.mpr ⟨List.mem_of_getElem? (i := 758) (by decide +kernel), by decide +kernel⟩
set_option maxRecDepth 20000 in
theorem uw_759 : Cond.code yX0_monthOf cX0_monthOf 2 (some .int) ∈ uw := List.mem_filter.mpr ⟨List.mem_of_getElem? (i := 759) (by decide +kernel), by decide +kernel⟩
set_option maxRecDepth 20000 in
theorem uw_760 : Cond.methodLink RX0 26 yX0_has ∈ uw := List.mem_filter.mpr ⟨List.mem_of_getElem? (i := 760) (by decide +kernel), by decide +kernel⟩
set_option maxRecDepth 20000 in
theorem uw_761 : Cond.methodLink RX10 195 yX0_contractOf ∈ uw := List.mem_filter.mpr ⟨List.mem_of_getElem? (i := 761) (by decide +kernel), by decide +kernel⟩
set_option maxRecDepth 20000 in
theorem uw_762 : Cond.instanceMethod yX0_contractOf ∈ uw := List.mem_filter.mpr ⟨List.mem_of_getElem? (i := 762) (by decide +kernel), by decide +kernel⟩
set_option maxRecDepth 20000 in
theorem uw_763 : Cond.selects RX0 yX0_contractOf yX0_contractOf ∈ uw := List.mem_filter.mpr ⟨List.mem_of_getElem? (i := 763) (by decide +kernel), by decide +kernel⟩
set_option maxRecDepth 20000 in
theorem uw_764 : Cond.code yX0_contractOf cX0_contractOf 2 (some .int) ∈ uw := List.mem_filter.mpr ⟨List.mem_of_getElem? (i := 764) (by decide +kernel), by decide +kernel⟩
set_option maxRecDepth 20000 in
theorem uw_765 : Cond.methodLink RX10 198 yX7_landedBy ∈ uw := List.mem_filter.mpr ⟨List.mem_of_getElem? (i := 765) (by decide +kernel), by decide +kernel⟩
set_option maxRecDepth 20000 in
theorem uw_766 : Cond.instanceMethod yX7_landedBy ∈ uw := List.mem_filter.mpr ⟨List.mem_of_getElem? (i := 766) (by decide +kernel), by decide +kernel⟩
set_option maxRecDepth 20000 in
theorem uw_767 : Cond.selects RX7 yX7_landedBy yX7_landedBy ∈ uw := List.mem_filter.mpr ⟨List.mem_of_getElem? (i := 767) (by decide +kernel), by decide +kernel⟩
set_option maxRecDepth 20000 in
theorem uw_768 : Cond.code yX7_landedBy cX7_landedBy 5 (some .int) ∈ uw := List.mem_filter.mpr ⟨List.mem_of_getElem? (i := 768) (by decide +kernel), by decide +kernel⟩
set_option maxRecDepth 20000 in
theorem uw_772 : Cond.code yX10_swear cX10_swear 2 (some .boolean) ∈ uw := List.mem_filter.mpr ⟨List.mem_of_getElem? (i := 772) (by decide +kernel), by decide +kernel⟩
set_option maxRecDepth 20000 in
theorem uw_773 : Cond.methodLink RX10 201 yX9_isSworn ∈ uw := List.mem_filter.mpr ⟨List.mem_of_getElem? (i := 773) (by decide +kernel), by decide +kernel⟩
set_option maxRecDepth 20000 in
theorem uw_774 : Cond.instanceMethod yX9_isSworn ∈ uw := List.mem_filter.mpr ⟨List.mem_of_getElem? (i := 774) (by decide +kernel), by decide +kernel⟩
set_option maxRecDepth 20000 in
theorem uw_775 : Cond.selects RX9 yX9_isSworn yX9_isSworn ∈ uw := List.mem_filter.mpr ⟨List.mem_of_getElem? (i := 775) (by decide +kernel), by decide +kernel⟩
set_option maxRecDepth 20000 in
theorem uw_776 : Cond.code yX9_isSworn cX9_isSworn 2 (some .boolean) ∈ uw := List.mem_filter.mpr ⟨List.mem_of_getElem? (i := 776) (by decide +kernel), by decide +kernel⟩
set_option maxRecDepth 20000 in
theorem uw_778 : Cond.methodLink RX10 204 yX9_setSworn ∈ uw := List.mem_filter.mpr ⟨List.mem_of_getElem? (i := 778) (by decide +kernel), by decide +kernel⟩
set_option maxRecDepth 20000 in
theorem uw_779 : Cond.instanceMethod yX9_setSworn ∈ uw := List.mem_filter.mpr ⟨List.mem_of_getElem? (i := 779) (by decide +kernel), by decide +kernel⟩
set_option maxRecDepth 20000 in
theorem uw_780 : Cond.selects RX9 yX9_setSworn yX9_setSworn ∈ uw := List.mem_filter.mpr ⟨List.mem_of_getElem? (i := 780) (by decide +kernel), by decide +kernel⟩
set_option maxRecDepth 20000 in
theorem uw_781 : Cond.code yX9_setSworn cX9_setSworn 2 none ∈ uw := List.mem_filter.mpr ⟨List.mem_of_getElem? (i := 781) (by decide +kernel), by decide +kernel⟩
set_option maxRecDepth 20000 in
theorem uw_785 : Cond.code yX10_show cX10_show 5 (some .int) ∈ uw := List.mem_filter.mpr ⟨List.mem_of_getElem? (i := 785) (by decide +kernel), by decide +kernel⟩
set_option maxRecDepth 20000 in
theorem uw_786 : Cond.methodLink RX10 207 yX10_isGate ∈ uw := List.mem_filter.mpr ⟨List.mem_of_getElem? (i := 786) (by decide +kernel), by decide +kernel⟩
set_option maxRecDepth 20000 in
theorem uw_787 : Cond.static yX10_isGate ∈ uw := List.mem_filter.mpr ⟨List.mem_of_getElem? (i := 787) (by decide +kernel), by decide +kernel⟩
set_option maxRecDepth 20000 in
theorem uw_788 : Cond.code yX10_isGate cX10_isGate 1 (some .boolean) ∈ uw := List.mem_filter.mpr ⟨List.mem_of_getElem? (i := 788) (by decide +kernel), by decide +kernel⟩
set_option maxRecDepth 20000 in
theorem uw_789 : Cond.methodLink RX10 210 yX9_judge ∈ uw := List.mem_filter.mpr ⟨List.mem_of_getElem? (i := 789) (by decide +kernel), by decide +kernel⟩
set_option maxRecDepth 20000 in
theorem uw_790 : Cond.instanceMethod yX9_judge ∈ uw := List.mem_filter.mpr ⟨List.mem_of_getElem? (i := 790) (by decide +kernel), by decide +kernel⟩
set_option maxRecDepth 20000 in
theorem uw_791 : Cond.selects RX9 yX9_judge yX9_judge ∈ uw := List.mem_filter.mpr ⟨List.mem_of_getElem? (i := 791) (by decide +kernel), by decide +kernel⟩
set_option maxRecDepth 20000 in
theorem uw_792 : Cond.code yX9_judge cX9_judge 4 (some .int) ∈ uw := List.mem_filter.mpr ⟨List.mem_of_getElem? (i := 792) (by decide +kernel), by decide +kernel⟩
set_option maxRecDepth 20000 in
theorem uw_793 : Cond.methodLink RX9 26 yX9_isSworn ∈ uw := List.mem_filter.mpr ⟨List.mem_of_getElem? (i := 793) (by decide +kernel), by decide +kernel⟩
set_option maxRecDepth 20000 in
theorem uw_794 : Cond.methodLink RX9 29 yX9_wasShownGood ∈ uw := List.mem_filter.mpr ⟨List.mem_of_getElem? (i := 794) (by decide +kernel), by decide +kernel⟩
set_option maxRecDepth 20000 in
theorem uw_795 : Cond.instanceMethod yX9_wasShownGood ∈ uw := List.mem_filter.mpr ⟨List.mem_of_getElem? (i := 795) (by decide +kernel), by decide +kernel⟩
set_option maxRecDepth 20000 in
theorem uw_796 : Cond.selects RX9 yX9_wasShownGood yX9_wasShownGood ∈ uw := List.mem_filter.mpr ⟨List.mem_of_getElem? (i := 796) (by decide +kernel), by decide +kernel⟩
set_option maxRecDepth 20000 in
theorem uw_797 : Cond.code yX9_wasShownGood cX9_wasShownGood 2 (some .boolean) ∈ uw := List.mem_filter.mpr ⟨List.mem_of_getElem? (i := 797) (by decide +kernel), by decide +kernel⟩
set_option maxRecDepth 20000 in
theorem uw_798 : Cond.methodLink RX10 213 yX9_note ∈ uw := List.mem_filter.mpr ⟨List.mem_of_getElem? (i := 798) (by decide +kernel), by decide +kernel⟩
set_option maxRecDepth 20000 in
theorem uw_799 : Cond.instanceMethod yX9_note ∈ uw := List.mem_filter.mpr ⟨List.mem_of_getElem? (i := 799) (by decide +kernel), by decide +kernel⟩
set_option maxRecDepth 20000 in
theorem uw_800 : Cond.selects RX9 yX9_note yX9_note ∈ uw := List.mem_filter.mpr ⟨List.mem_of_getElem? (i := 800) (by decide +kernel), by decide +kernel⟩
set_option maxRecDepth 20000 in
theorem uw_801 : Cond.code yX9_note cX9_note 4 none ∈ uw := List.mem_filter.mpr ⟨List.mem_of_getElem? (i := 801) (by decide +kernel), by decide +kernel⟩
set_option maxRecDepth 20000 in
theorem uw_806 : Cond.code yX10_frauds cX10_frauds 2 (some .int) ∈ uw := List.mem_filter.mpr ⟨List.mem_of_getElem? (i := 806) (by decide +kernel), by decide +kernel⟩
set_option maxRecDepth 20000 in
theorem uw_807 : Cond.methodLink RX10 217 yX9_fraudsAt ∈ uw := List.mem_filter.mpr ⟨List.mem_of_getElem? (i := 807) (by decide +kernel), by decide +kernel⟩
set_option maxRecDepth 20000 in
theorem uw_808 : Cond.instanceMethod yX9_fraudsAt ∈ uw := List.mem_filter.mpr ⟨List.mem_of_getElem? (i := 808) (by decide +kernel), by decide +kernel⟩
set_option maxRecDepth 20000 in
theorem uw_809 : Cond.selects RX9 yX9_fraudsAt yX9_fraudsAt ∈ uw := List.mem_filter.mpr ⟨List.mem_of_getElem? (i := 809) (by decide +kernel), by decide +kernel⟩
set_option maxRecDepth 20000 in
theorem uw_810 : Cond.code yX9_fraudsAt cX9_fraudsAt 2 (some .int) ∈ uw := List.mem_filter.mpr ⟨List.mem_of_getElem? (i := 810) (by decide +kernel), by decide +kernel⟩
set_option maxRecDepth 20000 in
theorem uw_814 : Cond.code yX10_part cX10_part 4 (some .int) ∈ uw := List.mem_filter.mpr ⟨List.mem_of_getElem? (i := 814) (by decide +kernel), by decide +kernel⟩
set_option maxRecDepth 20000 in
theorem uw_815 : Cond.methodLink RX10 220 yX7_throwOut ∈ uw := List.mem_filter.mpr ⟨List.mem_of_getElem? (i := 815) (by decide +kernel), by decide +kernel⟩
set_option maxRecDepth 20000 in
theorem uw_816 : Cond.instanceMethod yX7_throwOut ∈ uw := List.mem_filter.mpr ⟨List.mem_of_getElem? (i := 816) (by decide +kernel), by decide +kernel⟩
set_option maxRecDepth 20000 in
theorem uw_817 : Cond.selects RX7 yX7_throwOut yX7_throwOut ∈ uw := List.mem_filter.mpr ⟨List.mem_of_getElem? (i := 817) (by decide +kernel), by decide +kernel⟩
set_option maxRecDepth 20000 in
theorem uw_818 : Cond.code yX7_throwOut cX7_throwOut 8 (some .int) ∈ uw := List.mem_filter.mpr ⟨List.mem_of_getElem? (i := 818) (by decide +kernel), by decide +kernel⟩
set_option maxRecDepth 20000 in
theorem uw_819 : Cond.methodLink RX7 55 yJ9_max_7cf53 ∈ uw := List.mem_filter.mpr ⟨List.mem_of_getElem? (i := 819) (by decide +kernel), by decide +kernel⟩
set_option maxRecDepth 20000 in
theorem uw_820 : Cond.static yJ9_max_7cf53 ∈ uw := List.mem_filter.mpr ⟨List.mem_of_getElem? (i := 820) (by decide +kernel), by decide +kernel⟩
set_option maxRecDepth 20000 in
theorem uw_821 : Cond.code yJ9_max_7cf53 cJ9_max_7cf53 2 (some .int) ∈ uw := List.mem_filter.mpr ⟨List.mem_of_getElem? (i := 821) (by decide +kernel), by decide +kernel⟩
set_option maxRecDepth 20000 in
theorem uw_822 : Cond.methodLink RX7 61 yX7_take ∈ uw := List.mem_filter.mpr ⟨List.mem_of_getElem? (i := 822) (by decide +kernel), by decide +kernel⟩
set_option maxRecDepth 20000 in
theorem uw_823 : Cond.instanceMethod yX7_take ∈ uw := List.mem_filter.mpr ⟨List.mem_of_getElem? (i := 823) (by decide +kernel), by decide +kernel⟩
set_option maxRecDepth 20000 in
theorem uw_824 : Cond.selects RX7 yX7_take yX7_take ∈ uw := List.mem_filter.mpr ⟨List.mem_of_getElem? (i := 824) (by decide +kernel), by decide +kernel⟩
set_option maxRecDepth 20000 in
theorem uw_825 : Cond.code yX7_take cX7_take 4 (some .int) ∈ uw := List.mem_filter.mpr ⟨List.mem_of_getElem? (i := 825) (by decide +kernel), by decide +kernel⟩
set_option maxRecDepth 20000 in
theorem uw_826 : Cond.methodLink RX7 64 yJ9_min_7cf53 ∈ uw := List.mem_filter.mpr ⟨List.mem_of_getElem? (i := 826) (by decide +kernel), by decide +kernel⟩
set_option maxRecDepth 20000 in
theorem uw_827 : Cond.methodLink RX10 224 yX4_settle ∈ uw := List.mem_filter.mpr ⟨List.mem_of_getElem? (i := 827) (by decide +kernel), by decide +kernel⟩
set_option maxRecDepth 20000 in
theorem uw_828 : Cond.instanceMethod yX4_settle ∈ uw := List.mem_filter.mpr ⟨List.mem_of_getElem? (i := 828) (by decide +kernel), by decide +kernel⟩
set_option maxRecDepth 20000 in
theorem uw_829 : Cond.selects RX4 yX4_settle yX4_settle ∈ uw := List.mem_filter.mpr ⟨List.mem_of_getElem? (i := 829) (by decide +kernel), by decide +kernel⟩
set_option maxRecDepth 20000 in
theorem uw_830 : Cond.code yX4_settle cX4_settle 5 none ∈ uw := List.mem_filter.mpr ⟨List.mem_of_getElem? (i := 830) (by decide +kernel), by decide +kernel⟩
set_option maxRecDepth 20000 in
theorem uw_831 : Cond.methodLink RX4 39 yX7_lyingInAll ∈ uw := List.mem_filter.mpr ⟨List.mem_of_getElem? (i := 831) (by decide +kernel), by decide +kernel⟩
set_option maxRecDepth 20000 in
theorem uw_832 : Cond.instanceMethod yX7_lyingInAll ∈ uw := List.mem_filter.mpr ⟨List.mem_of_getElem? (i := 832) (by decide +kernel), by decide +kernel⟩
set_option maxRecDepth 20000 in
theorem uw_833 : Cond.selects RX7 yX7_lyingInAll yX7_lyingInAll ∈ uw := List.mem_filter.mpr ⟨List.mem_of_getElem? (i := 833) (by decide +kernel), by decide +kernel⟩
set_option maxRecDepth 20000 in
theorem uw_834 : Cond.code yX7_lyingInAll cX7_lyingInAll 3 (some .int) ∈ uw := List.mem_filter.mpr ⟨List.mem_of_getElem? (i := 834) (by decide +kernel), by decide +kernel⟩
set_option maxRecDepth 20000 in
theorem uw_835 : Cond.methodLink RX4 45 yX1_value ∈ uw := List.mem_filter.mpr ⟨List.mem_of_getElem? (i := 835) (by decide +kernel), by decide +kernel⟩
set_option maxRecDepth 20000 in
theorem uw_836 : Cond.methodLink RX4 51 yX4_dueShares ∈ uw := List.mem_filter.mpr ⟨List.mem_of_getElem? (i := 836) (by decide +kernel), by decide +kernel⟩
set_option maxRecDepth 20000 in
theorem uw_838 : Cond.instanceMethod yX4_dueShares ∈ uw := List.mem_filter.mpr ⟨List.mem_of_getElem? (i := 838) (by decide +kernel), by decide +kernel⟩
set_option maxRecDepth 20000 in
theorem uw_839 : Cond.code yX4_dueShares cX4_dueShares 5 (some .int) ∈ uw := List.mem_filter.mpr ⟨List.mem_of_getElem? (i := 839) (by decide +kernel), by decide +kernel⟩
set_option maxRecDepth 20000 in
theorem uw_840 : Cond.methodLink RX4 66 yX9_wasShownGood ∈ uw := List.mem_filter.mpr ⟨List.mem_of_getElem? (i := 840) (by decide +kernel), by decide +kernel⟩
set_option maxRecDepth 20000 in
theorem uw_841 : Cond.methodLink RX4 72 yX6_citizenAt ∈ uw := List.mem_filter.mpr ⟨List.mem_of_getElem? (i := 841) (by decide +kernel), by decide +kernel⟩
set_option maxRecDepth 20000 in
theorem uw_842 : Cond.methodLink RX4 55 yX4_cutByRank ∈ uw := List.mem_filter.mpr ⟨List.mem_of_getElem? (i := 842) (by decide +kernel), by decide +kernel⟩
set_option maxRecDepth 20000 in
theorem uw_844 : Cond.instanceMethod yX4_cutByRank ∈ uw := List.mem_filter.mpr ⟨List.mem_of_getElem? (i := 844) (by decide +kernel), by decide +kernel⟩
set_option maxRecDepth 20000 in
theorem uw_845 : Cond.code yX4_cutByRank cX4_cutByRank 5 (some .int) ∈ uw := List.mem_filter.mpr ⟨List.mem_of_getElem? (i := 845) (by decide +kernel), by decide +kernel⟩
set_option maxRecDepth 20000 in
theorem uw_846 : Cond.methodLink RX4 77 yX6_rankAt ∈ uw := List.mem_filter.mpr ⟨List.mem_of_getElem? (i := 846) (by decide +kernel), by decide +kernel⟩
set_option maxRecDepth 20000 in
theorem uw_847 : Cond.methodLink RX4 59 yX4_cutToWhatIsThere ∈ uw := List.mem_filter.mpr ⟨List.mem_of_getElem? (i := 847) (by decide +kernel), by decide +kernel⟩
set_option maxRecDepth 20000 in
theorem uw_849 : Cond.instanceMethod yX4_cutToWhatIsThere ∈ uw := List.mem_filter.mpr ⟨List.mem_of_getElem? (i := 849) (by decide +kernel), by decide +kernel⟩
set_option maxRecDepth 20000 in
theorem uw_850 : Cond.code yX4_cutToWhatIsThere cX4_cutToWhatIsThere 6 none ∈ uw := List.mem_filter.mpr ⟨List.mem_of_getElem? (i := 850) (by decide +kernel), by decide +kernel⟩
set_option maxRecDepth 20000 in
theorem uw_851 : Cond.methodLink RX10 228 yX4_handOut ∈ uw := List.mem_filter.mpr ⟨List.mem_of_getElem? (i := 851) (by decide +kernel), by decide +kernel⟩
set_option maxRecDepth 20000 in
theorem uw_852 : Cond.instanceMethod yX4_handOut ∈ uw := List.mem_filter.mpr ⟨List.mem_of_getElem? (i := 852) (by decide +kernel), by decide +kernel⟩
set_option maxRecDepth 20000 in
theorem uw_853 : Cond.selects RX4 yX4_handOut yX4_handOut ∈ uw := List.mem_filter.mpr ⟨List.mem_of_getElem? (i := 853) (by decide +kernel), by decide +kernel⟩
set_option maxRecDepth 20000 in
theorem uw_854 : Cond.code yX4_handOut cX4_handOut 3 (some .int) ∈ uw := List.mem_filter.mpr ⟨List.mem_of_getElem? (i := 854) (by decide +kernel), by decide +kernel⟩
set_option maxRecDepth 20000 in
theorem uw_855 : Cond.methodLink RX4 63 yX4_hand ∈ uw := List.mem_filter.mpr ⟨List.mem_of_getElem? (i := 855) (by decide +kernel), by decide +kernel⟩
set_option maxRecDepth 20000 in
theorem uw_857 : Cond.instanceMethod yX4_hand ∈ uw := List.mem_filter.mpr ⟨List.mem_of_getElem? (i := 857) (by decide +kernel), by decide +kernel⟩
set_option maxRecDepth 20000 in
theorem uw_858 : Cond.code yX4_hand cX4_hand 5 (some .int) ∈ uw := List.mem_filter.mpr ⟨List.mem_of_getElem? (i := 858) (by decide +kernel), by decide +kernel⟩
set_option maxRecDepth 20000 in
theorem uw_859 : Cond.methodLink RX4 80 yX7_size ∈ uw := List.mem_filter.mpr ⟨List.mem_of_getElem? (i := 859) (by decide +kernel), by decide +kernel⟩
set_option maxRecDepth 20000 in
theorem uw_860 : Cond.instanceMethod yX7_size ∈ uw := List.mem_filter.mpr ⟨List.mem_of_getElem? (i := 860) (by decide +kernel), by decide +kernel⟩
set_option maxRecDepth 20000 in
theorem uw_861 : Cond.selects RX7 yX7_size yX7_size ∈ uw := List.mem_filter.mpr ⟨List.mem_of_getElem? (i := 861) (by decide +kernel), by decide +kernel⟩
set_option maxRecDepth 20000 in
theorem uw_862 : Cond.code yX7_size cX7_size 1 (some .int) ∈ uw := List.mem_filter.mpr ⟨List.mem_of_getElem? (i := 862) (by decide +kernel), by decide +kernel⟩
set_option maxRecDepth 20000 in
theorem uw_863 : Cond.methodLink RX4 83 yX7_take ∈ uw := List.mem_filter.mpr ⟨List.mem_of_getElem? (i := 863) (by decide +kernel), by decide +kernel⟩
set_option maxRecDepth 20000 in
theorem uw_864 : Cond.methodLink RX4 86 yX3_note ∈ uw := List.mem_filter.mpr ⟨List.mem_of_getElem? (i := 864) (by decide +kernel), by decide +kernel⟩
set_option maxRecDepth 20000 in
theorem uw_865 : Cond.instanceMethod yX3_note ∈ uw := List.mem_filter.mpr ⟨List.mem_of_getElem? (i := 865) (by decide +kernel), by decide +kernel⟩
set_option maxRecDepth 20000 in
theorem uw_866 : Cond.selects RX3 yX3_note yX3_note ∈ uw := List.mem_filter.mpr ⟨List.mem_of_getElem? (i := 866) (by decide +kernel), by decide +kernel⟩
set_option maxRecDepth 20000 in
theorem uw_867 : Cond.code yX3_note cX3_note 5 none ∈ uw := List.mem_filter.mpr ⟨List.mem_of_getElem? (i := 867) (by decide +kernel), by decide +kernel⟩
set_option maxRecDepth 20000 in
theorem uw_868 : Cond.methodLink RX3 36 yX3_grow ∈ uw := List.mem_filter.mpr ⟨List.mem_of_getElem? (i := 868) (by decide +kernel), by decide +kernel⟩
set_option maxRecDepth 20000 in
theorem uw_870 : Cond.instanceMethod yX3_grow ∈ uw := List.mem_filter.mpr ⟨List.mem_of_getElem? (i := 870) (by decide +kernel), by decide +kernel⟩
set_option maxRecDepth 20000 in
theorem uw_871 : Cond.code yX3_grow cX3_grow 2 none ∈ uw := List.mem_filter.mpr ⟨List.mem_of_getElem? (i := 871) (by decide +kernel), by decide +kernel⟩
set_option maxRecDepth 20000 in
theorem uw_886 : Cond.methodLink RX10 231 yX7_lyingInAll ∈ uw := List.mem_filter.mpr ⟨List.mem_of_getElem? (i := 886) (by decide +kernel), by decide +kernel⟩
set_option maxRecDepth 20000 in
theorem uw_887 : Cond.methodLink RX10 234 yX4_dueByShare ∈ uw := List.mem_filter.mpr ⟨List.mem_of_getElem? (i := 887) (by decide +kernel), by decide +kernel⟩
set_option maxRecDepth 20000 in
theorem uw_888 : Cond.instanceMethod yX4_dueByShare ∈ uw := List.mem_filter.mpr ⟨List.mem_of_getElem? (i := 888) (by decide +kernel), by decide +kernel⟩
set_option maxRecDepth 20000 in
theorem uw_889 : Cond.selects RX4 yX4_dueByShare yX4_dueByShare ∈ uw := List.mem_filter.mpr ⟨List.mem_of_getElem? (i := 889) (by decide +kernel), by decide +kernel⟩
set_option maxRecDepth 20000 in
theorem uw_890 : Cond.code yX4_dueByShare cX4_dueByShare 1 (some .int) ∈ uw := List.mem_filter.mpr ⟨List.mem_of_getElem? (i := 890) (by decide +kernel), by decide +kernel⟩
set_option maxRecDepth 20000 in
theorem uw_891 : Cond.methodLink RX10 237 yX4_isLean ∈ uw := List.mem_filter.mpr ⟨List.mem_of_getElem? (i := 891) (by decide +kernel), by decide +kernel⟩
set_option maxRecDepth 20000 in
theorem uw_892 : Cond.instanceMethod yX4_isLean ∈ uw := List.mem_filter.mpr ⟨List.mem_of_getElem? (i := 892) (by decide +kernel), by decide +kernel⟩
set_option maxRecDepth 20000 in
theorem uw_893 : Cond.selects RX4 yX4_isLean yX4_isLean ∈ uw := List.mem_filter.mpr ⟨List.mem_of_getElem? (i := 893) (by decide +kernel), by decide +kernel⟩
set_option maxRecDepth 20000 in
theorem uw_894 : Cond.code yX4_isLean cX4_isLean 1 (some .boolean) ∈ uw := List.mem_filter.mpr ⟨List.mem_of_getElem? (i := 894) (by decide +kernel), by decide +kernel⟩
set_option maxRecDepth 20000 in
theorem uw_895 : Cond.methodLink RX10 240 yX3_close ∈ uw := List.mem_filter.mpr ⟨List.mem_of_getElem? (i := 895) (by decide +kernel), by decide +kernel⟩
set_option maxRecDepth 20000 in
theorem uw_896 : Cond.instanceMethod yX3_close ∈ uw := List.mem_filter.mpr ⟨List.mem_of_getElem? (i := 896) (by decide +kernel), by decide +kernel⟩
set_option maxRecDepth 20000 in
theorem uw_897 : Cond.selects RX3 yX3_close yX3_close ∈ uw := List.mem_filter.mpr ⟨List.mem_of_getElem? (i := 897) (by decide +kernel), by decide +kernel⟩
set_option maxRecDepth 20000 in
theorem uw_898 : Cond.code yX3_close cX3_close 7 none ∈ uw := List.mem_filter.mpr ⟨List.mem_of_getElem? (i := 898) (by decide +kernel), by decide +kernel⟩
set_option maxRecDepth 20000 in
theorem uw_900 : Cond.methodLink RX3 50 yX3_placesServed ∈ uw := List.mem_filter.mpr ⟨List.mem_of_getElem? (i := 900) (by decide +kernel), by decide +kernel⟩
set_option maxRecDepth 20000 in
theorem uw_902 : Cond.instanceMethod yX3_placesServed ∈ uw := List.mem_filter.mpr ⟨List.mem_of_getElem? (i := 902) (by decide +kernel), by decide +kernel⟩
set_option maxRecDepth 20000 in
theorem uw_903 : Cond.code yX3_placesServed cX3_placesServed 5 (some .int) ∈ uw := List.mem_filter.mpr ⟨List.mem_of_getElem? (i := 903) (by decide +kernel), by decide +kernel⟩
set_option maxRecDepth 20000 in
theorem uw_904 : Cond.methodLink RX3 54 yX3_startOf ∈ uw := List.mem_filter.mpr ⟨List.mem_of_getElem? (i := 904) (by decide +kernel), by decide +kernel⟩
set_option maxRecDepth 20000 in
theorem uw_906 : Cond.instanceMethod yX3_startOf ∈ uw := List.mem_filter.mpr ⟨List.mem_of_getElem? (i := 906) (by decide +kernel), by decide +kernel⟩
set_option maxRecDepth 20000 in
theorem uw_907 : Cond.code yX3_startOf cX3_startOf 2 (some .int) ∈ uw := List.mem_filter.mpr ⟨List.mem_of_getElem? (i := 907) (by decide +kernel), by decide +kernel⟩
set_option maxRecDepth 20000 in
theorem uw_908 : Cond.methodLink RX3 57 yX3_endOf ∈ uw := List.mem_filter.mpr ⟨List.mem_of_getElem? (i := 908) (by decide +kernel), by decide +kernel⟩
set_option maxRecDepth 20000 in
theorem uw_910 : Cond.instanceMethod yX3_endOf ∈ uw := List.mem_filter.mpr ⟨List.mem_of_getElem? (i := 910) (by decide +kernel), by decide +kernel⟩
set_option maxRecDepth 20000 in
theorem uw_911 : Cond.code yX3_endOf cX3_endOf 2 (some .int) ∈ uw := List.mem_filter.mpr ⟨List.mem_of_getElem? (i := 911) (by decide +kernel), by decide +kernel⟩
set_option maxRecDepth 20000 in
theorem uw_912 : Cond.methodLink RX10 244 yX9_clear ∈ uw := List.mem_filter.mpr ⟨List.mem_of_getElem? (i := 912) (by decide +kernel), by decide +kernel⟩
set_option maxRecDepth 20000 in
theorem uw_913 : Cond.instanceMethod yX9_clear ∈ uw := List.mem_filter.mpr ⟨List.mem_of_getElem? (i := 913) (by decide +kernel), by decide +kernel⟩
set_option maxRecDepth 20000 in
theorem uw_914 : Cond.selects RX9 yX9_clear yX9_clear ∈ uw := List.mem_filter.mpr ⟨List.mem_of_getElem? (i := 914) (by decide +kernel), by decide +kernel⟩
set_option maxRecDepth 20000 in
theorem uw_915 : Cond.code yX9_clear cX9_clear 2 none ∈ uw := List.mem_filter.mpr ⟨List.mem_of_getElem? (i := 915) (by decide +kernel), by decide +kernel⟩
set_option maxRecDepth 20000 in
theorem uw_916 : Cond.methodLink RX9 35 yJ7_fill_53178 ∈ uw := List.mem_filter.mpr ⟨List.mem_of_getElem? (i := 916) (by decide +kernel), by decide +kernel⟩
set_option maxRecDepth 20000 in
theorem uw_920 : Cond.code yX10_month cX10_month 3 (some .int) ∈ uw := List.mem_filter.mpr ⟨List.mem_of_getElem? (i := 920) (by decide +kernel), by decide +kernel⟩
set_option maxRecDepth 20000 in
theorem uw_921 : Cond.methodLink RX10 247 yX10_isParted ∈ uw := List.mem_filter.mpr ⟨List.mem_of_getElem? (i := 921) (by decide +kernel), by decide +kernel⟩
set_option maxRecDepth 20000 in
theorem uw_923 : Cond.instanceMethod yX10_isParted ∈ uw := List.mem_filter.mpr ⟨List.mem_of_getElem? (i := 923) (by decide +kernel), by decide +kernel⟩
set_option maxRecDepth 20000 in
theorem uw_924 : Cond.code yX10_isParted cX10_isParted 2 (some .boolean) ∈ uw := List.mem_filter.mpr ⟨List.mem_of_getElem? (i := 924) (by decide +kernel), by decide +kernel⟩
set_option maxRecDepth 20000 in
theorem uw_925 : Cond.methodLink RX10 250 yX3_fact ∈ uw := List.mem_filter.mpr ⟨List.mem_of_getElem? (i := 925) (by decide +kernel), by decide +kernel⟩
set_option maxRecDepth 20000 in
theorem uw_926 : Cond.instanceMethod yX3_fact ∈ uw := List.mem_filter.mpr ⟨List.mem_of_getElem? (i := 926) (by decide +kernel), by decide +kernel⟩
set_option maxRecDepth 20000 in
theorem uw_927 : Cond.selects RX3 yX3_fact yX3_fact ∈ uw := List.mem_filter.mpr ⟨List.mem_of_getElem? (i := 927) (by decide +kernel), by decide +kernel⟩
set_option maxRecDepth 20000 in
theorem uw_928 : Cond.code yX3_fact cX3_fact 3 (some .int) ∈ uw := List.mem_filter.mpr ⟨List.mem_of_getElem? (i := 928) (by decide +kernel), by decide +kernel⟩
set_option maxRecDepth 20000 in
theorem uw_932 : Cond.code yX10_given cX10_given 3 (some .int) ∈ uw := List.mem_filter.mpr ⟨List.mem_of_getElem? (i := 932) (by decide +kernel), by decide +kernel⟩
set_option maxRecDepth 20000 in
theorem uw_933 : Cond.methodLink RX10 251 yX3_sum ∈ uw := List.mem_filter.mpr ⟨List.mem_of_getElem? (i := 933) (by decide +kernel), by decide +kernel⟩
set_option maxRecDepth 20000 in
theorem uw_934 : Cond.instanceMethod yX3_sum ∈ uw := List.mem_filter.mpr ⟨List.mem_of_getElem? (i := 934) (by decide +kernel), by decide +kernel⟩
set_option maxRecDepth 20000 in
theorem uw_935 : Cond.selects RX3 yX3_sum yX3_sum ∈ uw := List.mem_filter.mpr ⟨List.mem_of_getElem? (i := 935) (by decide +kernel), by decide +kernel⟩
set_option maxRecDepth 20000 in
theorem uw_936 : Cond.code yX3_sum cX3_sum 5 (some .int) ∈ uw := List.mem_filter.mpr ⟨List.mem_of_getElem? (i := 936) (by decide +kernel), by decide +kernel⟩
set_option maxRecDepth 20000 in
theorem uw_940 : Cond.code yX10_from cX10_from 4 (some .int) ∈ uw := List.mem_filter.mpr ⟨List.mem_of_getElem? (i := 940) (by decide +kernel), by decide +kernel⟩
set_option maxRecDepth 20000 in
theorem uw_941 : Cond.methodLink RX10 254 yX3_lotOf ∈ uw := List.mem_filter.mpr ⟨List.mem_of_getElem? (i := 941) (by decide +kernel), by decide +kernel⟩
set_option maxRecDepth 20000 in
theorem uw_942 : Cond.instanceMethod yX3_lotOf ∈ uw := List.mem_filter.mpr ⟨List.mem_of_getElem? (i := 942) (by decide +kernel), by decide +kernel⟩
set_option maxRecDepth 20000 in
theorem uw_943 : Cond.selects RX3 yX3_lotOf yX3_lotOf ∈ uw := List.mem_filter.mpr ⟨List.mem_of_getElem? (i := 943) (by decide +kernel), by decide +kernel⟩
set_option maxRecDepth 20000 in
theorem uw_944 : Cond.code yX3_lotOf cX3_lotOf 6 (some .int) ∈ uw := List.mem_filter.mpr ⟨List.mem_of_getElem? (i := 944) (by decide +kernel), by decide +kernel⟩
set_option maxRecDepth 20000 in
theorem uw_948 : Cond.code yX10_back cX10_back 5 (some .int) ∈ uw := List.mem_filter.mpr ⟨List.mem_of_getElem? (i := 948) (by decide +kernel), by decide +kernel⟩
set_option maxRecDepth 20000 in
theorem uw_949 : Cond.methodLink RX10 257 yX10_isCitizen ∈ uw := List.mem_filter.mpr ⟨List.mem_of_getElem? (i := 949) (by decide +kernel), by decide +kernel⟩
set_option maxRecDepth 20000 in
theorem uw_950 : Cond.methodLink RX10 260 yX6_open ∈ uw := List.mem_filter.mpr ⟨List.mem_of_getElem? (i := 950) (by decide +kernel), by decide +kernel⟩
set_option maxRecDepth 20000 in
theorem uw_951 : Cond.methodLink RX10 263 yX6_advance ∈ uw := List.mem_filter.mpr ⟨List.mem_of_getElem? (i := 951) (by decide +kernel), by decide +kernel⟩
set_option maxRecDepth 20000 in
theorem uw_952 : Cond.methodLink RX10 266 yX3_hadWrongly ∈ uw := List.mem_filter.mpr ⟨List.mem_of_getElem? (i := 952) (by decide +kernel), by decide +kernel⟩
set_option maxRecDepth 20000 in
theorem uw_953 : Cond.instanceMethod yX3_hadWrongly ∈ uw := List.mem_filter.mpr ⟨List.mem_of_getElem? (i := 953) (by decide +kernel), by decide +kernel⟩
set_option maxRecDepth 20000 in
theorem uw_954 : Cond.selects RX3 yX3_hadWrongly yX3_hadWrongly ∈ uw := List.mem_filter.mpr ⟨List.mem_of_getElem? (i := 954) (by decide +kernel), by decide +kernel⟩
set_option maxRecDepth 20000 in
theorem uw_955 : Cond.code yX3_hadWrongly cX3_hadWrongly 6 (some .int) ∈ uw := List.mem_filter.mpr ⟨List.mem_of_getElem? (i := 955) (by decide +kernel), by decide +kernel⟩
set_option maxRecDepth 20000 in
theorem uw_956 : Cond.methodLink RX3 60 yX6_citizenAt ∈ uw := List.mem_filter.mpr ⟨List.mem_of_getElem? (i := 956) (by decide +kernel), by decide +kernel⟩
set_option maxRecDepth 20000 in
theorem uw_960 : Cond.code yX10_count cX10_count 2 (some .int) ∈ uw := List.mem_filter.mpr ⟨List.mem_of_getElem? (i := 960) (by decide +kernel), by decide +kernel⟩
set_option maxRecDepth 20000 in
theorem uw_961 : Cond.methodLink RX10 270 yX1_size ∈ uw := List.mem_filter.mpr ⟨List.mem_of_getElem? (i := 961) (by decide +kernel), by decide +kernel⟩
set_option maxRecDepth 20000 in
theorem uw_962 : Cond.instanceMethod yX1_size ∈ uw := List.mem_filter.mpr ⟨List.mem_of_getElem? (i := 962) (by decide +kernel), by decide +kernel⟩
set_option maxRecDepth 20000 in
theorem uw_963 : Cond.selects RX1 yX1_size yX1_size ∈ uw := List.mem_filter.mpr ⟨List.mem_of_getElem? (i := 963) (by decide +kernel), by decide +kernel⟩
set_option maxRecDepth 20000 in
theorem uw_964 : Cond.code yX1_size cX1_size 1 (some .int) ∈ uw := List.mem_filter.mpr ⟨List.mem_of_getElem? (i := 964) (by decide +kernel), by decide +kernel⟩
set_option maxRecDepth 20000 in
theorem uw_965 : Cond.methodLink RX10 273 yX5_size ∈ uw := List.mem_filter.mpr ⟨List.mem_of_getElem? (i := 965) (by decide +kernel), by decide +kernel⟩
set_option maxRecDepth 20000 in
theorem uw_966 : Cond.methodLink RX10 274 yX0_size ∈ uw := List.mem_filter.mpr ⟨List.mem_of_getElem? (i := 966) (by decide +kernel), by decide +kernel⟩
set_option maxRecDepth 20000 in
theorem uw_967 : Cond.instanceMethod yX0_size ∈ uw := List.mem_filter.mpr ⟨List.mem_of_getElem? (i := 967) (by decide +kernel), by decide +kernel⟩
set_option maxRecDepth 20000 in
theorem uw_968 : Cond.selects RX0 yX0_size yX0_size ∈ uw := List.mem_filter.mpr ⟨List.mem_of_getElem? (i := 968) (by decide +kernel), by decide +kernel⟩
set_option maxRecDepth 20000 in
theorem uw_969 : Cond.code yX0_size cX0_size 1 (some .int) ∈ uw := List.mem_filter.mpr ⟨List.mem_of_getElem? (i := 969) (by decide +kernel), by decide +kernel⟩
set_option maxRecDepth 20000 in
theorem uw_970 : Cond.methodLink RX10 275 yX7_size ∈ uw := List.mem_filter.mpr ⟨List.mem_of_getElem? (i := 970) (by decide +kernel), by decide +kernel⟩
set_option maxRecDepth 20000 in
theorem uw_977 : Cond.fieldLink RX11 184 "GrainDoleModel" "now" "I" ∈ uw := List.mem_filter.mpr ⟨List.mem_of_getElem? (i := 977) (by decide +kernel), by decide +kernel⟩
set_option maxRecDepth 20000 in
theorem uw_978 : Cond.fieldLink RX11 7 "GrainDoleModel" "tape" "[B" ∈ uw := List.mem_filter.mpr ⟨List.mem_of_getElem? (i := 978) (by decide +kernel), by decide +kernel⟩
set_option maxRecDepth 20000 in
theorem uw_979 : Cond.fieldLink RX11 126 "GrainDoleModel" "taped" "I" ∈ uw := List.mem_filter.mpr ⟨List.mem_of_getElem? (i := 979) (by decide +kernel), by decide +kernel⟩
set_option maxRecDepth 20000 in
theorem uw_980 : Cond.fieldLink RX11 181 "GrainDoleModel" "laws" "I" ∈ uw := List.mem_filter.mpr ⟨List.mem_of_getElem? (i := 980) (by decide +kernel), by decide +kernel⟩
set_option maxRecDepth 20000 in
theorem uw_981 : Cond.fieldLink RX11 13 "GrainDoleModel" "lawFrom" "[I" ∈ uw := List.mem_filter.mpr ⟨List.mem_of_getElem? (i := 981) (by decide +kernel), by decide +kernel⟩
set_option maxRecDepth 20000 in
theorem uw_982 : Cond.fieldLink RX11 17 "GrainDoleModel" "lawKnown" "[I" ∈ uw := List.mem_filter.mpr ⟨List.mem_of_getElem? (i := 982) (by decide +kernel), by decide +kernel⟩
set_option maxRecDepth 20000 in
theorem uw_983 : Cond.fieldLink RX11 20 "GrainDoleModel" "lawNumber" "[I" ∈ uw := List.mem_filter.mpr ⟨List.mem_of_getElem? (i := 983) (by decide +kernel), by decide +kernel⟩
set_option maxRecDepth 20000 in
theorem uw_984 : Cond.fieldLink RX11 214 "GrainDoleModel" "entries" "I" ∈ uw := List.mem_filter.mpr ⟨List.mem_of_getElem? (i := 984) (by decide +kernel), by decide +kernel⟩
set_option maxRecDepth 20000 in
theorem uw_985 : Cond.fieldLink RX11 23 "GrainDoleModel" "kind" "[I" ∈ uw := List.mem_filter.mpr ⟨List.mem_of_getElem? (i := 985) (by decide +kernel), by decide +kernel⟩
set_option maxRecDepth 20000 in
theorem uw_986 : Cond.fieldLink RX11 26 "GrainDoleModel" "monthOf" "[I" ∈ uw := List.mem_filter.mpr ⟨List.mem_of_getElem? (i := 986) (by decide +kernel), by decide +kernel⟩
set_option maxRecDepth 20000 in
theorem uw_987 : Cond.fieldLink RX11 29 "GrainDoleModel" "one" "[I" ∈ uw := List.mem_filter.mpr ⟨List.mem_of_getElem? (i := 987) (by decide +kernel), by decide +kernel⟩
set_option maxRecDepth 20000 in
theorem uw_988 : Cond.fieldLink RX11 32 "GrainDoleModel" "two" "[I" ∈ uw := List.mem_filter.mpr ⟨List.mem_of_getElem? (i := 988) (by decide +kernel), by decide +kernel⟩
set_option maxRecDepth 20000 in
theorem uw_989 : Cond.fieldLink RX11 35 "GrainDoleModel" "three" "[I" ∈ uw := List.mem_filter.mpr ⟨List.mem_of_getElem? (i := 989) (by decide +kernel), by decide +kernel⟩
set_option maxRecDepth 20000 in
theorem uw_990 : Cond.fieldLink RX11 38 "GrainDoleModel" "known" "[I" ∈ uw := List.mem_filter.mpr ⟨List.mem_of_getElem? (i := 990) (by decide +kernel), by decide +kernel⟩
set_option maxRecDepth 20000 in
theorem uw_991 : Cond.fieldLink RX11 227 "GrainDoleModel" "ships" "I" ∈ uw := List.mem_filter.mpr ⟨List.mem_of_getElem? (i := 991) (by decide +kernel), by decide +kernel⟩
set_option maxRecDepth 20000 in
theorem uw_992 : Cond.fieldLink RX11 41 "GrainDoleModel" "contract" "[I" ∈ uw := List.mem_filter.mpr ⟨List.mem_of_getElem? (i := 992) (by decide +kernel), by decide +kernel⟩
set_option maxRecDepth 20000 in
theorem uw_993 : Cond.fieldLink RX11 44 "GrainDoleModel" "contractMonth" "[I" ∈ uw := List.mem_filter.mpr ⟨List.mem_of_getElem? (i := 993) (by decide +kernel), by decide +kernel⟩
set_option maxRecDepth 20000 in
theorem uw_994 : Cond.fieldLink RX11 47 "GrainDoleModel" "room" "[I" ∈ uw := List.mem_filter.mpr ⟨List.mem_of_getElem? (i := 994) (by decide +kernel), by decide +kernel⟩
set_option maxRecDepth 20000 in
theorem uw_995 : Cond.fieldLink RX11 230 "GrainDoleModel" "lots" "I" ∈ uw := List.mem_filter.mpr ⟨List.mem_of_getElem? (i := 995) (by decide +kernel), by decide +kernel⟩
set_option maxRecDepth 20000 in
theorem uw_996 : Cond.fieldLink RX11 50 "GrainDoleModel" "lotShip" "[I" ∈ uw := List.mem_filter.mpr ⟨List.mem_of_getElem? (i := 996) (by decide +kernel), by decide +kernel⟩
set_option maxRecDepth 20000 in
theorem uw_997 : Cond.fieldLink RX11 53 "GrainDoleModel" "lotGranary" "[I" ∈ uw := List.mem_filter.mpr ⟨List.mem_of_getElem? (i := 997) (by decide +kernel), by decide +kernel⟩
set_option maxRecDepth 20000 in
theorem uw_998 : Cond.fieldLink RX11 56 "GrainDoleModel" "lotMonth" "[I" ∈ uw := List.mem_filter.mpr ⟨List.mem_of_getElem? (i := 998) (by decide +kernel), by decide +kernel⟩
set_option maxRecDepth 20000 in
theorem uw_999 : Cond.fieldLink RX11 59 "GrainDoleModel" "lotMany" "[I" ∈ uw := List.mem_filter.mpr ⟨List.mem_of_getElem? (i := 999) (by decide +kernel), by decide +kernel⟩
set_option maxRecDepth 20000 in
theorem uw_1000 : Cond.fieldLink RX11 62 "GrainDoleModel" "lotLeft" "[I" ∈ uw := List.mem_filter.mpr ⟨List.mem_of_getElem? (i := 1000) (by decide +kernel), by decide +kernel⟩
set_option maxRecDepth 20000 in
theorem uw_1001 : Cond.fieldLink RX11 65 "GrainDoleModel" "lotThrown" "[I" ∈ uw := List.mem_filter.mpr ⟨List.mem_of_getElem? (i := 1001) (by decide +kernel), by decide +kernel⟩
set_option maxRecDepth 20000 in
theorem uw_1002 : Cond.fieldLink RX11 68 "GrainDoleModel" "isDamp" "[Z" ∈ uw := List.mem_filter.mpr ⟨List.mem_of_getElem? (i := 1002) (by decide +kernel), by decide +kernel⟩
set_option maxRecDepth 20000 in
theorem uw_1003 : Cond.fieldLink RX11 72 "GrainDoleModel" "isSworn" "[Z" ∈ uw := List.mem_filter.mpr ⟨List.mem_of_getElem? (i := 1003) (by decide +kernel), by decide +kernel⟩
set_option maxRecDepth 20000 in
theorem uw_1004 : Cond.fieldLink RX11 75 "GrainDoleModel" "isShown" "[Z" ∈ uw := List.mem_filter.mpr ⟨List.mem_of_getElem? (i := 1004) (by decide +kernel), by decide +kernel⟩
set_option maxRecDepth 20000 in
theorem uw_1005 : Cond.fieldLink RX11 78 "GrainDoleModel" "frauds" "[I" ∈ uw := List.mem_filter.mpr ⟨List.mem_of_getElem? (i := 1005) (by decide +kernel), by decide +kernel⟩
set_option maxRecDepth 20000 in
theorem uw_1006 : Cond.fieldLink RX11 81 "GrainDoleModel" "monthNumber" "[I" ∈ uw := List.mem_filter.mpr ⟨List.mem_of_getElem? (i := 1006) (by decide +kernel), by decide +kernel⟩
set_option maxRecDepth 20000 in
theorem uw_1007 : Cond.fieldLink RX11 84 "GrainDoleModel" "given" "[I" ∈ uw := List.mem_filter.mpr ⟨List.mem_of_getElem? (i := 1007) (by decide +kernel), by decide +kernel⟩
set_option maxRecDepth 20000 in
theorem uw_1008 : Cond.fieldLink RX11 87 "GrainDoleModel" "givenTo" "[I" ∈ uw := List.mem_filter.mpr ⟨List.mem_of_getElem? (i := 1008) (by decide +kernel), by decide +kernel⟩
set_option maxRecDepth 20000 in
theorem uw_1009 : Cond.fieldLink RX11 245 "GrainDoleModel" "takes" "I" ∈ uw := List.mem_filter.mpr ⟨List.mem_of_getElem? (i := 1009) (by decide +kernel), by decide +kernel⟩
set_option maxRecDepth 20000 in
theorem uw_1010 : Cond.fieldLink RX11 90 "GrainDoleModel" "takeFrom" "[I" ∈ uw := List.mem_filter.mpr ⟨List.mem_of_getElem? (i := 1010) (by decide +kernel), by decide +kernel⟩
set_option maxRecDepth 20000 in
theorem uw_1011 : Cond.fieldLink RX11 93 "GrainDoleModel" "takeLot" "[I" ∈ uw := List.mem_filter.mpr ⟨List.mem_of_getElem? (i := 1011) (by decide +kernel), by decide +kernel⟩
set_option maxRecDepth 20000 in
theorem uw_1012 : Cond.fieldLink RX11 96 "GrainDoleModel" "takePlace" "[I" ∈ uw := List.mem_filter.mpr ⟨List.mem_of_getElem? (i := 1012) (by decide +kernel), by decide +kernel⟩
set_option maxRecDepth 20000 in
theorem uw_1013 : Cond.fieldLink RX11 99 "GrainDoleModel" "takeMany" "[I" ∈ uw := List.mem_filter.mpr ⟨List.mem_of_getElem? (i := 1013) (by decide +kernel), by decide +kernel⟩
set_option maxRecDepth 20000 in
theorem uw_1014 : Cond.fieldLink RX11 137 "GrainDoleModel" "next" "I" ∈ uw := List.mem_filter.mpr ⟨List.mem_of_getElem? (i := 1014) (by decide +kernel), by decide +kernel⟩
set_option maxRecDepth 20000 in
theorem uw_1015 : Cond.fieldLink RX11 134 "GrainDoleModel" "fault" "I" ∈ uw := List.mem_filter.mpr ⟨List.mem_of_getElem? (i := 1015) (by decide +kernel), by decide +kernel⟩
set_option maxRecDepth 20000 in
theorem uw_1016 : Cond.fieldLink RX11 144 "GrainDoleModel" "wordFrom" "I" ∈ uw := List.mem_filter.mpr ⟨List.mem_of_getElem? (i := 1016) (by decide +kernel), by decide +kernel⟩
set_option maxRecDepth 20000 in
theorem uw_1017 : Cond.fieldLink RX11 147 "GrainDoleModel" "wordSize" "I" ∈ uw := List.mem_filter.mpr ⟨List.mem_of_getElem? (i := 1017) (by decide +kernel), by decide +kernel⟩
set_option maxRecDepth 20000 in
theorem uw_1018 : Cond.fieldLink RX11 158 "GrainDoleModel" "said" "I" ∈ uw := List.mem_filter.mpr ⟨List.mem_of_getElem? (i := 1018) (by decide +kernel), by decide +kernel⟩
set_option maxRecDepth 20000 in
theorem uw_1019 : Cond.fieldLink RX11 102 "GrainDoleModel" "word" "[I" ∈ uw := List.mem_filter.mpr ⟨List.mem_of_getElem? (i := 1019) (by decide +kernel), by decide +kernel⟩
set_option maxRecDepth 20000 in
theorem uw_1020 : Cond.fieldLink RX11 175 "GrainDoleModel" "seen" "I" ∈ uw := List.mem_filter.mpr ⟨List.mem_of_getElem? (i := 1020) (by decide +kernel), by decide +kernel⟩
set_option maxRecDepth 20000 in
theorem uw_1021 : Cond.fieldLink RX11 105 "GrainDoleModel" "holderOf" "[I" ∈ uw := List.mem_filter.mpr ⟨List.mem_of_getElem? (i := 1021) (by decide +kernel), by decide +kernel⟩
set_option maxRecDepth 20000 in
theorem uw_1022 : Cond.fieldLink RX11 108 "GrainDoleModel" "rankOf" "[I" ∈ uw := List.mem_filter.mpr ⟨List.mem_of_getElem? (i := 1022) (by decide +kernel), by decide +kernel⟩
set_option maxRecDepth 20000 in
theorem uw_1023 : Cond.fieldLink RX11 111 "GrainDoleModel" "isDead" "[Z" ∈ uw := List.mem_filter.mpr ⟨List.mem_of_getElem? (i := 1023) (by decide +kernel), by decide +kernel⟩
set_option maxRecDepth 20000 in
theorem uw_1024 : Cond.fieldLink RX11 114 "GrainDoleModel" "isVoided" "[Z" ∈ uw := List.mem_filter.mpr ⟨List.mem_of_getElem? (i := 1024) (by decide +kernel), by decide +kernel⟩
set_option maxRecDepth 20000 in
theorem uw_1025 : Cond.fieldLink RX11 117 "GrainDoleModel" "order" "[I" ∈ uw := List.mem_filter.mpr ⟨List.mem_of_getElem? (i := 1025) (by decide +kernel), by decide +kernel⟩
set_option maxRecDepth 20000 in
theorem uw_1026 : Cond.fieldLink RX11 211 "GrainDoleModel" "listBy" "I" ∈ uw := List.mem_filter.mpr ⟨List.mem_of_getElem? (i := 1026) (by decide +kernel), by decide +kernel⟩
set_option maxRecDepth 20000 in
theorem uw_1027 : Cond.fieldLink RX11 120 "GrainDoleModel" "due" "[I" ∈ uw := List.mem_filter.mpr ⟨List.mem_of_getElem? (i := 1027) (by decide +kernel), by decide +kernel⟩
set_option maxRecDepth 20000 in
theorem uw_1028 : Cond.fieldLink RX11 123 "GrainDoleModel" "wants" "[Z" ∈ uw := List.mem_filter.mpr ⟨List.mem_of_getElem? (i := 1028) (by decide +kernel), by decide +kernel⟩
set_option maxRecDepth 20000 in
theorem uw_1137 : Cond.code yX11_feed cX11_feed 6 (some .int) ∈ uw := List.mem_filter.mpr ⟨List.mem_of_getElem? (i := 1137) (by decide +kernel), by decide +kernel⟩
set_option maxRecDepth 20000 in
theorem uw_1138 : Cond.methodLink RX11 130 yX11_four ∈ uw := List.mem_filter.mpr ⟨List.mem_of_getElem? (i := 1138) (by decide +kernel), by decide +kernel⟩
set_option maxRecDepth 20000 in
theorem uw_1140 : Cond.instanceMethod yX11_four ∈ uw := List.mem_filter.mpr ⟨List.mem_of_getElem? (i := 1140) (by decide +kernel), by decide +kernel⟩
set_option maxRecDepth 20000 in
theorem uw_1141 : Cond.code yX11_four cX11_four 3 none ∈ uw := List.mem_filter.mpr ⟨List.mem_of_getElem? (i := 1141) (by decide +kernel), by decide +kernel⟩
set_option maxRecDepth 20000 in
theorem uw_1145 : Cond.code yX11_end cX11_end 2 (some .int) ∈ uw := List.mem_filter.mpr ⟨List.mem_of_getElem? (i := 1145) (by decide +kernel), by decide +kernel⟩
set_option maxRecDepth 20000 in
theorem uw_1149 : Cond.code yX11_law cX11_law 4 (some .int) ∈ uw := List.mem_filter.mpr ⟨List.mem_of_getElem? (i := 1149) (by decide +kernel), by decide +kernel⟩
set_option maxRecDepth 20000 in
theorem uw_1150 : Cond.methodLink RX11 161 yX11_in ∈ uw := List.mem_filter.mpr ⟨List.mem_of_getElem? (i := 1150) (by decide +kernel), by decide +kernel⟩
set_option maxRecDepth 20000 in
theorem uw_1151 : Cond.static yX11_in ∈ uw := List.mem_filter.mpr ⟨List.mem_of_getElem? (i := 1151) (by decide +kernel), by decide +kernel⟩
set_option maxRecDepth 20000 in
theorem uw_1152 : Cond.code yX11_in cX11_in 3 (some .boolean) ∈ uw := List.mem_filter.mpr ⟨List.mem_of_getElem? (i := 1152) (by decide +kernel), by decide +kernel⟩
set_option maxRecDepth 20000 in
theorem uw_1153 : Cond.methodLink RX11 187 yX11_empties ∈ uw := List.mem_filter.mpr ⟨List.mem_of_getElem? (i := 1153) (by decide +kernel), by decide +kernel⟩
set_option maxRecDepth 20000 in
theorem uw_1155 : Cond.instanceMethod yX11_empties ∈ uw := List.mem_filter.mpr ⟨List.mem_of_getElem? (i := 1155) (by decide +kernel), by decide +kernel⟩
set_option maxRecDepth 20000 in
theorem uw_1156 : Cond.code yX11_empties cX11_empties 4 none ∈ uw := List.mem_filter.mpr ⟨List.mem_of_getElem? (i := 1156) (by decide +kernel), by decide +kernel⟩
set_option maxRecDepth 20000 in
theorem uw_1157 : Cond.methodLink RX11 140 yX11_see ∈ uw := List.mem_filter.mpr ⟨List.mem_of_getElem? (i := 1157) (by decide +kernel), by decide +kernel⟩
set_option maxRecDepth 20000 in
theorem uw_1159 : Cond.instanceMethod yX11_see ∈ uw := List.mem_filter.mpr ⟨List.mem_of_getElem? (i := 1159) (by decide +kernel), by decide +kernel⟩
set_option maxRecDepth 20000 in
theorem uw_1160 : Cond.code yX11_see cX11_see 1 (some .int) ∈ uw := List.mem_filter.mpr ⟨List.mem_of_getElem? (i := 1160) (by decide +kernel), by decide +kernel⟩
set_option maxRecDepth 20000 in
theorem uw_1161 : Cond.methodLink RX11 190 yX11_clause ∈ uw := List.mem_filter.mpr ⟨List.mem_of_getElem? (i := 1161) (by decide +kernel), by decide +kernel⟩
set_option maxRecDepth 20000 in
theorem uw_1163 : Cond.instanceMethod yX11_clause ∈ uw := List.mem_filter.mpr ⟨List.mem_of_getElem? (i := 1163) (by decide +kernel), by decide +kernel⟩
set_option maxRecDepth 20000 in
theorem uw_1164 : Cond.code yX11_clause cX11_clause 5 (some .boolean) ∈ uw := List.mem_filter.mpr ⟨List.mem_of_getElem? (i := 1164) (by decide +kernel), by decide +kernel⟩
set_option maxRecDepth 20000 in
theorem uw_1165 : Cond.methodLink RX11 172 yX11_clauseOf ∈ uw := List.mem_filter.mpr ⟨List.mem_of_getElem? (i := 1165) (by decide +kernel), by decide +kernel⟩
set_option maxRecDepth 20000 in
theorem uw_1167 : Cond.instanceMethod yX11_clauseOf ∈ uw := List.mem_filter.mpr ⟨List.mem_of_getElem? (i := 1167) (by decide +kernel), by decide +kernel⟩
set_option maxRecDepth 20000 in
theorem uw_1168 : Cond.code yX11_clauseOf cX11_clauseOf 1 (some .int) ∈ uw := List.mem_filter.mpr ⟨List.mem_of_getElem? (i := 1168) (by decide +kernel), by decide +kernel⟩
set_option maxRecDepth 20000 in
theorem uw_1169 : Cond.methodLink RX11 165 yX11_looks ∈ uw := List.mem_filter.mpr ⟨List.mem_of_getElem? (i := 1169) (by decide +kernel), by decide +kernel⟩
set_option maxRecDepth 20000 in
theorem uw_1171 : Cond.instanceMethod yX11_looks ∈ uw := List.mem_filter.mpr ⟨List.mem_of_getElem? (i := 1171) (by decide +kernel), by decide +kernel⟩
set_option maxRecDepth 20000 in
theorem uw_1172 : Cond.code yX11_looks cX11_looks 2 none ∈ uw := List.mem_filter.mpr ⟨List.mem_of_getElem? (i := 1172) (by decide +kernel), by decide +kernel⟩
set_option maxRecDepth 20000 in
theorem uw_1173 : Cond.methodLink RX11 168 yX11_isText ∈ uw := List.mem_filter.mpr ⟨List.mem_of_getElem? (i := 1173) (by decide +kernel), by decide +kernel⟩
set_option maxRecDepth 20000 in
theorem uw_1175 : Cond.instanceMethod yX11_isText ∈ uw := List.mem_filter.mpr ⟨List.mem_of_getElem? (i := 1175) (by decide +kernel), by decide +kernel⟩
set_option maxRecDepth 20000 in
theorem uw_1176 : Cond.code yX11_isText cX11_isText 11 (some .boolean) ∈ uw := List.mem_filter.mpr ⟨List.mem_of_getElem? (i := 1176) (by decide +kernel), by decide +kernel⟩
set_option maxRecDepth 20000 in
theorem uw_1177 : Cond.methodLink RX11 154 yX11_fails ∈ uw := List.mem_filter.mpr ⟨List.mem_of_getElem? (i := 1177) (by decide +kernel), by decide +kernel⟩
set_option maxRecDepth 20000 in
theorem uw_1179 : Cond.instanceMethod yX11_fails ∈ uw := List.mem_filter.mpr ⟨List.mem_of_getElem? (i := 1179) (by decide +kernel), by decide +kernel⟩
set_option maxRecDepth 20000 in
theorem uw_1180 : Cond.code yX11_fails cX11_fails 3 (some .boolean) ∈ uw := List.mem_filter.mpr ⟨List.mem_of_getElem? (i := 1180) (by decide +kernel), by decide +kernel⟩
set_option maxRecDepth 20000 in
theorem uw_1181 : Cond.methodLink RX11 178 yX11_number ∈ uw := List.mem_filter.mpr ⟨List.mem_of_getElem? (i := 1181) (by decide +kernel), by decide +kernel⟩
set_option maxRecDepth 20000 in
theorem uw_1183 : Cond.instanceMethod yX11_number ∈ uw := List.mem_filter.mpr ⟨List.mem_of_getElem? (i := 1183) (by decide +kernel), by decide +kernel⟩
set_option maxRecDepth 20000 in
theorem uw_1184 : Cond.code yX11_number cX11_number 6 (some .boolean) ∈ uw := List.mem_filter.mpr ⟨List.mem_of_getElem? (i := 1184) (by decide +kernel), by decide +kernel⟩
set_option maxRecDepth 20000 in
theorem uw_1185 : Cond.methodLink RX11 150 yX11_isDigit ∈ uw := List.mem_filter.mpr ⟨List.mem_of_getElem? (i := 1185) (by decide +kernel), by decide +kernel⟩
set_option maxRecDepth 20000 in
theorem uw_1186 : Cond.static yX11_isDigit ∈ uw := List.mem_filter.mpr ⟨List.mem_of_getElem? (i := 1186) (by decide +kernel), by decide +kernel⟩
set_option maxRecDepth 20000 in
theorem uw_1187 : Cond.code yX11_isDigit cX11_isDigit 1 (some .boolean) ∈ uw := List.mem_filter.mpr ⟨List.mem_of_getElem? (i := 1187) (by decide +kernel), by decide +kernel⟩
set_option maxRecDepth 20000 in
theorem uw_1191 : Cond.code yX11_holds cX11_holds 4 (some .int) ∈ uw := List.mem_filter.mpr ⟨List.mem_of_getElem? (i := 1191) (by decide +kernel), by decide +kernel⟩
set_option maxRecDepth 20000 in
theorem uw_1192 : Cond.methodLink RX11 197 yX11_isMonth ∈ uw := List.mem_filter.mpr ⟨List.mem_of_getElem? (i := 1192) (by decide +kernel), by decide +kernel⟩
set_option maxRecDepth 20000 in
theorem uw_1193 : Cond.static yX11_isMonth ∈ uw := List.mem_filter.mpr ⟨List.mem_of_getElem? (i := 1193) (by decide +kernel), by decide +kernel⟩
set_option maxRecDepth 20000 in
theorem uw_1194 : Cond.code yX11_isMonth cX11_isMonth 1 (some .boolean) ∈ uw := List.mem_filter.mpr ⟨List.mem_of_getElem? (i := 1194) (by decide +kernel), by decide +kernel⟩
set_option maxRecDepth 20000 in
theorem uw_1195 : Cond.methodLink RX11 200 yX11_lawNumberOf ∈ uw := List.mem_filter.mpr ⟨List.mem_of_getElem? (i := 1195) (by decide +kernel), by decide +kernel⟩
set_option maxRecDepth 20000 in
theorem uw_1197 : Cond.instanceMethod yX11_lawNumberOf ∈ uw := List.mem_filter.mpr ⟨List.mem_of_getElem? (i := 1197) (by decide +kernel), by decide +kernel⟩
set_option maxRecDepth 20000 in
theorem uw_1198 : Cond.code yX11_lawNumberOf cX11_lawNumberOf 5 (some .int) ∈ uw := List.mem_filter.mpr ⟨List.mem_of_getElem? (i := 1198) (by decide +kernel), by decide +kernel⟩
set_option maxRecDepth 20000 in
theorem uw_1199 : Cond.methodLink RX11 193 yX11_lawOf ∈ uw := List.mem_filter.mpr ⟨List.mem_of_getElem? (i := 1199) (by decide +kernel), by decide +kernel⟩
set_option maxRecDepth 20000 in
theorem uw_1201 : Cond.instanceMethod yX11_lawOf ∈ uw := List.mem_filter.mpr ⟨List.mem_of_getElem? (i := 1201) (by decide +kernel), by decide +kernel⟩
set_option maxRecDepth 20000 in
theorem uw_1202 : Cond.code yX11_lawOf cX11_lawOf 5 (some .int) ∈ uw := List.mem_filter.mpr ⟨List.mem_of_getElem? (i := 1202) (by decide +kernel), by decide +kernel⟩
set_option maxRecDepth 20000 in
theorem uw_1206 : Cond.code yX11_enter cX11_enter 7 (some .int) ∈ uw := List.mem_filter.mpr ⟨List.mem_of_getElem? (i := 1206) (by decide +kernel), by decide +kernel⟩
set_option maxRecDepth 20000 in
theorem uw_1210 : Cond.code yX11_isVoid cX11_isVoid 3 (some .int) ∈ uw := List.mem_filter.mpr ⟨List.mem_of_getElem? (i := 1210) (by decide +kernel), by decide +kernel⟩
set_option maxRecDepth 20000 in
theorem uw_1211 : Cond.methodLink RX11 220 yX11_list ∈ uw := List.mem_filter.mpr ⟨List.mem_of_getElem? (i := 1211) (by decide +kernel), by decide +kernel⟩
set_option maxRecDepth 20000 in
theorem uw_1213 : Cond.instanceMethod yX11_list ∈ uw := List.mem_filter.mpr ⟨List.mem_of_getElem? (i := 1213) (by decide +kernel), by decide +kernel⟩
set_option maxRecDepth 20000 in
theorem uw_1214 : Cond.code yX11_list cX11_list 6 none ∈ uw := List.mem_filter.mpr ⟨List.mem_of_getElem? (i := 1214) (by decide +kernel), by decide +kernel⟩
set_option maxRecDepth 20000 in
theorem uw_1215 : Cond.methodLink RX11 217 yX11_goes ∈ uw := List.mem_filter.mpr ⟨List.mem_of_getElem? (i := 1215) (by decide +kernel), by decide +kernel⟩
set_option maxRecDepth 20000 in
theorem uw_1217 : Cond.instanceMethod yX11_goes ∈ uw := List.mem_filter.mpr ⟨List.mem_of_getElem? (i := 1217) (by decide +kernel), by decide +kernel⟩
set_option maxRecDepth 20000 in
theorem uw_1218 : Cond.code yX11_goes cX11_goes 3 (some .boolean) ∈ uw := List.mem_filter.mpr ⟨List.mem_of_getElem? (i := 1218) (by decide +kernel), by decide +kernel⟩
set_option maxRecDepth 20000 in
theorem uw_1219 : Cond.methodLink RX11 204 yX11_placeOf ∈ uw := List.mem_filter.mpr ⟨List.mem_of_getElem? (i := 1219) (by decide +kernel), by decide +kernel⟩
set_option maxRecDepth 20000 in
theorem uw_1221 : Cond.instanceMethod yX11_placeOf ∈ uw := List.mem_filter.mpr ⟨List.mem_of_getElem? (i := 1221) (by decide +kernel), by decide +kernel⟩
set_option maxRecDepth 20000 in
theorem uw_1222 : Cond.code yX11_placeOf cX11_placeOf 3 (some .int) ∈ uw := List.mem_filter.mpr ⟨List.mem_of_getElem? (i := 1222) (by decide +kernel), by decide +kernel⟩
set_option maxRecDepth 20000 in
theorem uw_1223 : Cond.methodLink RX11 208 yX11_listKnown ∈ uw := List.mem_filter.mpr ⟨List.mem_of_getElem? (i := 1223) (by decide +kernel), by decide +kernel⟩
set_option maxRecDepth 20000 in
theorem uw_1225 : Cond.instanceMethod yX11_listKnown ∈ uw := List.mem_filter.mpr ⟨List.mem_of_getElem? (i := 1225) (by decide +kernel), by decide +kernel⟩
set_option maxRecDepth 20000 in
theorem uw_1226 : Cond.code yX11_listKnown cX11_listKnown 3 (some .int) ∈ uw := List.mem_filter.mpr ⟨List.mem_of_getElem? (i := 1226) (by decide +kernel), by decide +kernel⟩
set_option maxRecDepth 20000 in
theorem uw_1228 : Cond.instanceMethod yX11_holder ∈ uw := List.mem_filter.mpr ⟨List.mem_of_getElem? (i := 1228) (by decide +kernel), by decide +kernel⟩
set_option maxRecDepth 20000 in
theorem uw_1229 : Cond.selects RX11 yX11_holder yX11_holder ∈ uw := List.mem_filter.mpr ⟨List.mem_of_getElem? (i := 1229) (by decide +kernel), by decide +kernel⟩
set_option maxRecDepth 20000 in
theorem uw_1230 : Cond.code yX11_holder cX11_holder 4 (some .int) ∈ uw := List.mem_filter.mpr ⟨List.mem_of_getElem? (i := 1230) (by decide +kernel), by decide +kernel⟩
set_option maxRecDepth 20000 in
theorem uw_1234 : Cond.code yX11_rank cX11_rank 4 (some .int) ∈ uw := List.mem_filter.mpr ⟨List.mem_of_getElem? (i := 1234) (by decide +kernel), by decide +kernel⟩
set_option maxRecDepth 20000 in
theorem uw_1235 : Cond.methodLink RX11 224 yX11_holder ∈ uw := List.mem_filter.mpr ⟨List.mem_of_getElem? (i := 1235) (by decide +kernel), by decide +kernel⟩
set_option maxRecDepth 20000 in
theorem uw_1239 : Cond.code yX11_ship cX11_ship 3 (some .int) ∈ uw := List.mem_filter.mpr ⟨List.mem_of_getElem? (i := 1239) (by decide +kernel), by decide +kernel⟩
set_option maxRecDepth 20000 in
theorem uw_1243 : Cond.code yX11_room cX11_room 4 (some .int) ∈ uw := List.mem_filter.mpr ⟨List.mem_of_getElem? (i := 1243) (by decide +kernel), by decide +kernel⟩
set_option maxRecDepth 20000 in
theorem uw_1244 : Cond.methodLink RX11 233 yX11_lies ∈ uw := List.mem_filter.mpr ⟨List.mem_of_getElem? (i := 1244) (by decide +kernel), by decide +kernel⟩
set_option maxRecDepth 20000 in
theorem uw_1246 : Cond.instanceMethod yX11_lies ∈ uw := List.mem_filter.mpr ⟨List.mem_of_getElem? (i := 1246) (by decide +kernel), by decide +kernel⟩
set_option maxRecDepth 20000 in
theorem uw_1247 : Cond.code yX11_lies cX11_lies 4 (some .int) ∈ uw := List.mem_filter.mpr ⟨List.mem_of_getElem? (i := 1247) (by decide +kernel), by decide +kernel⟩
set_option maxRecDepth 20000 in
theorem uw_1251 : Cond.code yX11_land cX11_land 7 (some .int) ∈ uw := List.mem_filter.mpr ⟨List.mem_of_getElem? (i := 1251) (by decide +kernel), by decide +kernel⟩
set_option maxRecDepth 20000 in
theorem uw_1255 : Cond.code yX11_lot cX11_lot 3 (some .int) ∈ uw := List.mem_filter.mpr ⟨List.mem_of_getElem? (i := 1255) (by decide +kernel), by decide +kernel⟩
set_option maxRecDepth 20000 in
theorem uw_1259 : Cond.code yX11_premium cX11_premium 4 (some .int) ∈ uw := List.mem_filter.mpr ⟨List.mem_of_getElem? (i := 1259) (by decide +kernel), by decide +kernel⟩
set_option maxRecDepth 20000 in
theorem uw_1263 : Cond.code yX11_swear cX11_swear 2 (some .boolean) ∈ uw := List.mem_filter.mpr ⟨List.mem_of_getElem? (i := 1263) (by decide +kernel), by decide +kernel⟩
set_option maxRecDepth 20000 in
theorem uw_1267 : Cond.code yX11_show cX11_show 5 (some .int) ∈ uw := List.mem_filter.mpr ⟨List.mem_of_getElem? (i := 1267) (by decide +kernel), by decide +kernel⟩
set_option maxRecDepth 20000 in
theorem uw_1271 : Cond.code yX11_frauds cX11_frauds 2 (some .int) ∈ uw := List.mem_filter.mpr ⟨List.mem_of_getElem? (i := 1271) (by decide +kernel), by decide +kernel⟩
set_option maxRecDepth 20000 in
theorem uw_1275 : Cond.code yX11_part cX11_part 10 (some .int) ∈ uw := List.mem_filter.mpr ⟨List.mem_of_getElem? (i := 1275) (by decide +kernel), by decide +kernel⟩
set_option maxRecDepth 20000 in
theorem uw_1276 : Cond.methodLink RX11 236 yX11_throwsOut ∈ uw := List.mem_filter.mpr ⟨List.mem_of_getElem? (i := 1276) (by decide +kernel), by decide +kernel⟩
set_option maxRecDepth 20000 in
theorem uw_1278 : Cond.instanceMethod yX11_throwsOut ∈ uw := List.mem_filter.mpr ⟨List.mem_of_getElem? (i := 1278) (by decide +kernel), by decide +kernel⟩
set_option maxRecDepth 20000 in
theorem uw_1279 : Cond.code yX11_throwsOut cX11_throwsOut 6 (some .int) ∈ uw := List.mem_filter.mpr ⟨List.mem_of_getElem? (i := 1279) (by decide +kernel), by decide +kernel⟩
set_option maxRecDepth 20000 in
theorem uw_1280 : Cond.methodLink RX11 239 yX11_all ∈ uw := List.mem_filter.mpr ⟨List.mem_of_getElem? (i := 1280) (by decide +kernel), by decide +kernel⟩
set_option maxRecDepth 20000 in
theorem uw_1282 : Cond.instanceMethod yX11_all ∈ uw := List.mem_filter.mpr ⟨List.mem_of_getElem? (i := 1282) (by decide +kernel), by decide +kernel⟩
set_option maxRecDepth 20000 in
theorem uw_1283 : Cond.code yX11_all cX11_all 3 (some .int) ∈ uw := List.mem_filter.mpr ⟨List.mem_of_getElem? (i := 1283) (by decide +kernel), by decide +kernel⟩
set_option maxRecDepth 20000 in
theorem uw_1284 : Cond.methodLink RX11 242 yX11_lean ∈ uw := List.mem_filter.mpr ⟨List.mem_of_getElem? (i := 1284) (by decide +kernel), by decide +kernel⟩
set_option maxRecDepth 20000 in
theorem uw_1286 : Cond.instanceMethod yX11_lean ∈ uw := List.mem_filter.mpr ⟨List.mem_of_getElem? (i := 1286) (by decide +kernel), by decide +kernel⟩
set_option maxRecDepth 20000 in
theorem uw_1287 : Cond.code yX11_lean cX11_lean 6 none ∈ uw := List.mem_filter.mpr ⟨List.mem_of_getElem? (i := 1287) (by decide +kernel), by decide +kernel⟩
set_option maxRecDepth 20000 in
theorem uw_1288 : Cond.methodLink RX11 248 yX11_takesCorn ∈ uw := List.mem_filter.mpr ⟨List.mem_of_getElem? (i := 1288) (by decide +kernel), by decide +kernel⟩
set_option maxRecDepth 20000 in
theorem uw_1290 : Cond.instanceMethod yX11_takesCorn ∈ uw := List.mem_filter.mpr ⟨List.mem_of_getElem? (i := 1290) (by decide +kernel), by decide +kernel⟩
set_option maxRecDepth 20000 in
theorem uw_1291 : Cond.code yX11_takesCorn cX11_takesCorn 5 none ∈ uw := List.mem_filter.mpr ⟨List.mem_of_getElem? (i := 1291) (by decide +kernel), by decide +kernel⟩
set_option maxRecDepth 20000 in
theorem uw_1295 : Cond.code yX11_month cX11_month 3 (some .int) ∈ uw := List.mem_filter.mpr ⟨List.mem_of_getElem? (i := 1295) (by decide +kernel), by decide +kernel⟩
set_option maxRecDepth 20000 in
theorem uw_1299 : Cond.code yX11_given cX11_given 3 (some .int) ∈ uw := List.mem_filter.mpr ⟨List.mem_of_getElem? (i := 1299) (by decide +kernel), by decide +kernel⟩
set_option maxRecDepth 20000 in
theorem uw_1303 : Cond.code yX11_from cX11_from 6 (some .int) ∈ uw := List.mem_filter.mpr ⟨List.mem_of_getElem? (i := 1303) (by decide +kernel), by decide +kernel⟩
set_option maxRecDepth 20000 in
theorem uw_1307 : Cond.code yX11_back cX11_back 7 (some .int) ∈ uw := List.mem_filter.mpr ⟨List.mem_of_getElem? (i := 1307) (by decide +kernel), by decide +kernel⟩
set_option maxRecDepth 20000 in
theorem uw_1311 : Cond.code yX11_count cX11_count 2 (some .int) ∈ uw := List.mem_filter.mpr ⟨List.mem_of_getElem? (i := 1311) (by decide +kernel), by decide +kernel⟩
set_option maxRecDepth 20000 in
theorem uw_1312 : Cond.fieldLink RJ0 9 "java/lang/String" "value" "[B" ∈ uw := List.mem_filter.mpr ⟨List.mem_of_getElem? (i := 1312) (by decide +kernel), by decide +kernel⟩
set_option maxRecDepth 20000 in
theorem uw_1313 : Cond.fieldLink RJ0 15 "java/lang/String" "coder" "B" ∈ uw := List.mem_filter.mpr ⟨List.mem_of_getElem? (i := 1313) (by decide +kernel), by decide +kernel⟩
