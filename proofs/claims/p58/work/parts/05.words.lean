theorem tw_6_187 : Cond.constantLong RX12 95 (3) ∈ TT := tt_6 (i := 187) rfl rfl
theorem tw_6_190 : Cond.code yX12_in cX12_in 6 (some .boolean) ∈ TT := tt_6 (i := 190) rfl rfl
theorem tw_6_188 : Cond.methodLink RX12 97 yX12_in ∈ TT := tt_6 (i := 188) rfl rfl
theorem tw_6_189 : Cond.static yX12_in ∈ TT := tt_6 (i := 189) rfl rfl
theorem tw_1_13 : Cond.initialized RX12 ∈ TT := tt_1 (i := 13) rfl rfl
theorem tw_6_53 : Cond.fieldLink RX12 92 "DarkGateModel" "thrown" "I" ∈ TT := tt_6 (i := 53) rfl rfl
theorem tw_6_95 : Cond.lays RX12 "DarkGateModel" "thrown" "I" ∈ TT := tt_6 (i := 95) rfl rfl
theorem tw_6_97 : Cond.laysFinal RX12 "DarkGateModel" "width" "[I" ∈ TT := tt_6 (i := 97) rfl rfl
theorem tw_6_99 : Cond.laysFinal RX12 "DarkGateModel" "many" "[I" ∈ TT := tt_6 (i := 99) rfl rfl
theorem tw_6_101 : Cond.laysFinal RX12 "DarkGateModel" "cells" "[J" ∈ TT := tt_6 (i := 101) rfl rfl
theorem tw_6_103 : Cond.laysFinal RX12 "DarkGateModel" "moved" "[J" ∈ TT := tt_6 (i := 103) rfl rfl
theorem tw_6_105 : Cond.laysFinal RX12 "DarkGateModel" "tape" "[B" ∈ TT := tt_6 (i := 105) rfl rfl
theorem tw_6_107 : Cond.lays RX12 "DarkGateModel" "taped" "I" ∈ TT := tt_6 (i := 107) rfl rfl
theorem tw_6_109 : Cond.lays RX12 "DarkGateModel" "at" "I" ∈ TT := tt_6 (i := 109) rfl rfl
theorem tw_6_111 : Cond.lays RX12 "DarkGateModel" "token" "I" ∈ TT := tt_6 (i := 111) rfl rfl
theorem tw_6_113 : Cond.lays RX12 "DarkGateModel" "place" "I" ∈ TT := tt_6 (i := 113) rfl rfl
theorem tw_6_115 : Cond.lays RX12 "DarkGateModel" "value" "I" ∈ TT := tt_6 (i := 115) rfl rfl
theorem tw_6_117 : Cond.lays RX12 "DarkGateModel" "word" "J" ∈ TT := tt_6 (i := 117) rfl rfl
theorem tw_6_119 : Cond.lays RX12 "DarkGateModel" "bad" "I" ∈ TT := tt_6 (i := 119) rfl rfl
theorem tw_6_121 : Cond.lays RX12 "DarkGateModel" "badPlace" "I" ∈ TT := tt_6 (i := 121) rfl rfl
theorem tw_6_123 : Cond.lays RX12 "DarkGateModel" "fault" "I" ∈ TT := tt_6 (i := 123) rfl rfl
theorem tw_6_125 : Cond.lays RX12 "DarkGateModel" "faultPlace" "I" ∈ TT := tt_6 (i := 125) rfl rfl
theorem tw_6_127 : Cond.laysFinal RX12 "DarkGateModel" "lines" "[I" ∈ TT := tt_6 (i := 127) rfl rfl
theorem tw_6_129 : Cond.laysFinal RX12 "DarkGateModel" "has" "[I" ∈ TT := tt_6 (i := 129) rfl rfl
theorem tw_6_131 : Cond.laysFinal RX12 "DarkGateModel" "lane" "[I" ∈ TT := tt_6 (i := 131) rfl rfl
theorem tw_6_133 : Cond.laysFinal RX12 "DarkGateModel" "gate" "[I" ∈ TT := tt_6 (i := 133) rfl rfl
theorem tw_6_135 : Cond.laysFinal RX12 "DarkGateModel" "house" "[I" ∈ TT := tt_6 (i := 135) rfl rfl
theorem tw_6_137 : Cond.laysFinal RX12 "DarkGateModel" "stranger" "[I" ∈ TT := tt_6 (i := 137) rfl rfl
theorem tw_6_139 : Cond.laysFinal RX12 "DarkGateModel" "act" "[I" ∈ TT := tt_6 (i := 139) rfl rfl
theorem tw_6_141 : Cond.laysFinal RX12 "DarkGateModel" "isKept" "[Z" ∈ TT := tt_6 (i := 141) rfl rfl
theorem tw_6_143 : Cond.lays RX12 "DarkGateModel" "open" "I" ∈ TT := tt_6 (i := 143) rfl rfl
theorem tw_6_145 : Cond.laysFinal RX12 "DarkGateModel" "hold" "[I" ∈ TT := tt_6 (i := 145) rfl rfl
theorem tw_6_147 : Cond.laysFinal RX12 "DarkGateModel" "minute" "[I" ∈ TT := tt_6 (i := 147) rfl rfl
theorem tw_6_149 : Cond.laysFinal RX12 "DarkGateModel" "was" "[I" ∈ TT := tt_6 (i := 149) rfl rfl
theorem tw_6_151 : Cond.laysFinal RX12 "DarkGateModel" "owner" "[I" ∈ TT := tt_6 (i := 151) rfl rfl
theorem tw_6_153 : Cond.laysFinal RX12 "DarkGateModel" "strange" "[I" ∈ TT := tt_6 (i := 153) rfl rfl
theorem tw_6_155 : Cond.lays RX12 "DarkGateModel" "bestGlad" "I" ∈ TT := tt_6 (i := 155) rfl rfl
theorem tw_6_157 : Cond.laysFinal RX12 "DarkGateModel" "isFit" "[Z" ∈ TT := tt_6 (i := 157) rfl rfl
theorem tw_6_159 : Cond.laysFinal RX12 "DarkGateModel" "seen" "[I" ∈ TT := tt_6 (i := 159) rfl rfl
theorem tw_6_161 : Cond.laysFinal RX12 "DarkGateModel" "often" "[I" ∈ TT := tt_6 (i := 161) rfl rfl
theorem tw_6_163 : Cond.lays RX12 "DarkGateModel" "askBest" "I" ∈ TT := tt_6 (i := 163) rfl rfl
theorem tw_6_165 : Cond.lays RX12 "DarkGateModel" "askLeaves" "I" ∈ TT := tt_6 (i := 165) rfl rfl
theorem tw_6_167 : Cond.lays RX12 "DarkGateModel" "placeLeast" "I" ∈ TT := tt_6 (i := 167) rfl rfl
theorem tw_6_169 : Cond.laysFinal RX12 "DarkGateModel" "room" "[I" ∈ TT := tt_6 (i := 169) rfl rfl
theorem tw_6_171 : Cond.laysFinal RX12 "DarkGateModel" "cartOf" "[I" ∈ TT := tt_6 (i := 171) rfl rfl
theorem tw_6_173 : Cond.laysFinal RX12 "DarkGateModel" "game" "[I" ∈ TT := tt_6 (i := 173) rfl rfl
theorem tw_6_175 : Cond.laysFinal RX12 "DarkGateModel" "weight" "[J" ∈ TT := tt_6 (i := 175) rfl rfl
theorem tw_6_177 : Cond.lays RX12 "DarkGateModel" "weightAll" "J" ∈ TT := tt_6 (i := 177) rfl rfl
theorem tw_6_186 : Cond.code yX12_isSlot cX12_isSlot 1 (some .boolean) ∈ TT := tt_6 (i := 186) rfl rfl
theorem tw_6_184 : Cond.methodLink RX12 101 yX12_isSlot ∈ TT := tt_6 (i := 184) rfl rfl
theorem tw_6_185 : Cond.static yX12_isSlot ∈ TT := tt_6 (i := 185) rfl rfl
theorem tw_6_54 : Cond.fieldLink RX12 7 "DarkGateModel" "width" "[I" ∈ TT := tt_6 (i := 54) rfl rfl
theorem tw_6_55 : Cond.fieldLink RX12 13 "DarkGateModel" "many" "[I" ∈ TT := tt_6 (i := 55) rfl rfl
theorem tw_6_56 : Cond.fieldLink RX12 16 "DarkGateModel" "cells" "[J" ∈ TT := tt_6 (i := 56) rfl rfl
theorem tw_6_197 : Cond.code yX12_cut cX12_cut 3 (some .long) ∈ TT := tt_6 (i := 197) rfl rfl
theorem tw_6_195 : Cond.methodLink RX12 105 yX12_cut ∈ TT := tt_6 (i := 195) rfl rfl
theorem tw_6_196 : Cond.static yX12_cut ∈ TT := tt_6 (i := 196) rfl rfl
theorem tw_6_57 : Cond.fieldLink RX12 20 "DarkGateModel" "moved" "[J" ∈ TT := tt_6 (i := 57) rfl rfl
theorem tw_6_58 : Cond.fieldLink RX12 23 "DarkGateModel" "tape" "[B" ∈ TT := tt_6 (i := 58) rfl rfl
theorem tw_6_59 : Cond.fieldLink RX12 109 "DarkGateModel" "taped" "I" ∈ TT := tt_6 (i := 59) rfl rfl
theorem tw_6_209 : Cond.code yX12_four cX12_four 3 none ∈ TT := tt_6 (i := 209) rfl rfl
theorem tw_6_206 : Cond.methodLink RX12 112 yX12_four ∈ TT := tt_6 (i := 206) rfl rfl
theorem tw_6_208 : Cond.instanceMethod yX12_four ∈ TT := tt_6 (i := 208) rfl rfl
theorem tw_p_35 : Cond.selects RX12 yX12_four yX12_four ∈ TT := tt_p (i := 35) (q := (yX12_four, 42)) rfl
theorem tw_6_60 : Cond.fieldLink RX12 116 "DarkGateModel" "at" "I" ∈ TT := tt_6 (i := 60) rfl rfl
theorem tw_7_1 : Cond.code yX12_isByte cX12_isByte 4 (some .boolean) ∈ TT := tt_7 (i := 1) rfl rfl
theorem tw_6_238 : Cond.methodLink RX12 119 yX12_isByte ∈ TT := tt_6 (i := 238) rfl rfl
theorem tw_7_0 : Cond.instanceMethod yX12_isByte ∈ TT := tt_7 (i := 0) rfl rfl
theorem tw_p_40 : Cond.selects RX12 yX12_isByte yX12_isByte ∈ TT := tt_p (i := 40) (q := (yX12_isByte, 42)) rfl
theorem tw_6_62 : Cond.fieldLink RX12 123 "DarkGateModel" "place" "I" ∈ TT := tt_6 (i := 62) rfl rfl
theorem tw_6_63 : Cond.fieldLink RX12 126 "DarkGateModel" "value" "I" ∈ TT := tt_6 (i := 63) rfl rfl
theorem tw_6_64 : Cond.fieldLink RX12 129 "DarkGateModel" "word" "J" ∈ TT := tt_6 (i := 64) rfl rfl
theorem tw_6_61 : Cond.fieldLink RX12 133 "DarkGateModel" "token" "I" ∈ TT := tt_6 (i := 61) rfl rfl
theorem tw_7_5 : Cond.constant RX12 142 (100000) ∈ TT := tt_7 (i := 5) rfl rfl
theorem tw_7_6 : Cond.constant RX12 143 (1000000) ∈ TT := tt_7 (i := 6) rfl rfl
theorem tw_7_3 : Cond.constantLong RX12 138 (27) ∈ TT := tt_7 (i := 3) rfl rfl
theorem tw_7_4 : Cond.constantLong RX12 140 (96) ∈ TT := tt_7 (i := 4) rfl rfl
theorem tw_7_2 : Cond.constantLong RX12 136 (-1) ∈ TT := tt_7 (i := 2) rfl rfl
theorem tw_6_65 : Cond.fieldLink RX12 144 "DarkGateModel" "bad" "I" ∈ TT := tt_6 (i := 65) rfl rfl
theorem tw_6_66 : Cond.fieldLink RX12 147 "DarkGateModel" "badPlace" "I" ∈ TT := tt_6 (i := 66) rfl rfl
theorem tw_7_23 : Cond.code yX12_is cX12_is 3 (some .boolean) ∈ TT := tt_7 (i := 23) rfl rfl
theorem tw_7_20 : Cond.methodLink RX12 150 yX12_is ∈ TT := tt_7 (i := 20) rfl rfl
theorem tw_7_22 : Cond.instanceMethod yX12_is ∈ TT := tt_7 (i := 22) rfl rfl
theorem tw_p_44 : Cond.selects RX12 yX12_is yX12_is ∈ TT := tt_p (i := 44) (q := (yX12_is, 42)) rfl
theorem tw_6_237 : Cond.code yX12_next cX12_next 2 none ∈ TT := tt_6 (i := 237) rfl rfl
theorem tw_6_234 : Cond.methodLink RX12 154 yX12_next ∈ TT := tt_6 (i := 234) rfl rfl
theorem tw_6_236 : Cond.instanceMethod yX12_next ∈ TT := tt_6 (i := 236) rfl rfl
theorem tw_p_39 : Cond.selects RX12 yX12_next yX12_next ∈ TT := tt_p (i := 39) (q := (yX12_next, 42)) rfl
theorem tw_7_19 : Cond.code yX12_takes cX12_takes 3 (some .boolean) ∈ TT := tt_7 (i := 19) rfl rfl
theorem tw_7_16 : Cond.methodLink RX12 157 yX12_takes ∈ TT := tt_7 (i := 16) rfl rfl
theorem tw_7_18 : Cond.instanceMethod yX12_takes ∈ TT := tt_7 (i := 18) rfl rfl
theorem tw_p_43 : Cond.selects RX12 yX12_takes yX12_takes ∈ TT := tt_p (i := 43) (q := (yX12_takes, 42)) rfl
theorem tw_7_27 : Cond.code yX12_fails cX12_fails 2 none ∈ TT := tt_7 (i := 27) rfl rfl
theorem tw_7_24 : Cond.methodLink RX12 160 yX12_fails ∈ TT := tt_7 (i := 24) rfl rfl
theorem tw_7_26 : Cond.instanceMethod yX12_fails ∈ TT := tt_7 (i := 26) rfl rfl
theorem tw_p_45 : Cond.selects RX12 yX12_fails yX12_fails ∈ TT := tt_p (i := 45) (q := (yX12_fails, 42)) rfl
theorem tw_7_15 : Cond.code yX12_asks cX12_asks 3 none ∈ TT := tt_7 (i := 15) rfl rfl
theorem tw_7_12 : Cond.methodLink RX12 163 yX12_asks ∈ TT := tt_7 (i := 12) rfl rfl
theorem tw_7_14 : Cond.instanceMethod yX12_asks ∈ TT := tt_7 (i := 14) rfl rfl
theorem tw_p_42 : Cond.selects RX12 yX12_asks yX12_asks ∈ TT := tt_p (i := 42) (q := (yX12_asks, 42)) rfl
theorem tw_7_36 : Cond.code yX12_number cX12_number 4 (some .int) ∈ TT := tt_7 (i := 36) rfl rfl
theorem tw_7_33 : Cond.methodLink RX12 167 yX12_number ∈ TT := tt_7 (i := 33) rfl rfl
theorem tw_7_35 : Cond.instanceMethod yX12_number ∈ TT := tt_7 (i := 35) rfl rfl
theorem tw_p_47 : Cond.selects RX12 yX12_number yX12_number ∈ TT := tt_p (i := 47) (q := (yX12_number, 42)) rfl
theorem tw_6_67 : Cond.fieldLink RX12 171 "DarkGateModel" "fault" "I" ∈ TT := tt_6 (i := 67) rfl rfl
theorem tw_6_68 : Cond.fieldLink RX12 27 "DarkGateModel" "faultPlace" "I" ∈ TT := tt_6 (i := 68) rfl rfl
theorem tw_6_70 : Cond.fieldLink RX12 34 "DarkGateModel" "has" "[I" ∈ TT := tt_6 (i := 70) rfl rfl
theorem tw_7_49 : Cond.code yX12_hasRead cX12_hasRead 2 (some .int) ∈ TT := tt_7 (i := 49) rfl rfl
theorem tw_7_46 : Cond.methodLink RX12 174 yX12_hasRead ∈ TT := tt_7 (i := 46) rfl rfl
theorem tw_7_48 : Cond.instanceMethod yX12_hasRead ∈ TT := tt_7 (i := 48) rfl rfl
theorem tw_p_50 : Cond.selects RX12 yX12_hasRead yX12_hasRead ∈ TT := tt_p (i := 50) (q := (yX12_hasRead, 42)) rfl
theorem tw_7_67 : Cond.constantLong RX12 178 (47) ∈ TT := tt_7 (i := 67) rfl rfl
theorem tw_7_57 : Cond.code yX12_streetHere cX12_streetHere 1 (some .int) ∈ TT := tt_7 (i := 57) rfl rfl
theorem tw_7_54 : Cond.methodLink RX12 180 yX12_streetHere ∈ TT := tt_7 (i := 54) rfl rfl
theorem tw_7_56 : Cond.instanceMethod yX12_streetHere ∈ TT := tt_7 (i := 56) rfl rfl
theorem tw_p_52 : Cond.selects RX12 yX12_streetHere yX12_streetHere ∈ TT := tt_p (i := 52) (q := (yX12_streetHere, 42)) rfl
theorem tw_6_71 : Cond.fieldLink RX12 37 "DarkGateModel" "lane" "[I" ∈ TT := tt_6 (i := 71) rfl rfl
theorem tw_7_58 : Cond.constantLong RX12 184 (555) ∈ TT := tt_7 (i := 58) rfl rfl
theorem tw_7_59 : Cond.constantLong RX12 186 (10656676) ∈ TT := tt_7 (i := 59) rfl rfl
theorem tw_7_32 : Cond.code yX12_number_ cX12_number_ 5 (some .int) ∈ TT := tt_7 (i := 32) rfl rfl
theorem tw_7_29 : Cond.methodLink RX12 188 yX12_number_ ∈ TT := tt_7 (i := 29) rfl rfl
theorem tw_7_31 : Cond.instanceMethod yX12_number_ ∈ TT := tt_7 (i := 31) rfl rfl
theorem tw_p_46 : Cond.selects RX12 yX12_number_ yX12_number_ ∈ TT := tt_p (i := 46) (q := (yX12_number_, 42)) rfl
theorem tw_6_229 : Cond.code yX12_tells cX12_tells 3 none ∈ TT := tt_6 (i := 229) rfl rfl
theorem tw_6_226 : Cond.methodLink RX12 195 yX12_tells ∈ TT := tt_6 (i := 226) rfl rfl
theorem tw_6_228 : Cond.instanceMethod yX12_tells ∈ TT := tt_6 (i := 228) rfl rfl
theorem tw_p_37 : Cond.selects RX12 yX12_tells yX12_tells ∈ TT := tt_p (i := 37) (q := (yX12_tells, 42)) rfl
theorem tw_7_61 : Cond.constantLong RX12 193 (29596810) ∈ TT := tt_7 (i := 61) rfl rfl
theorem tw_7_60 : Cond.constantLong RX12 191 (7325125) ∈ TT := tt_7 (i := 60) rfl rfl
theorem tw_6_73 : Cond.fieldLink RX12 43 "DarkGateModel" "house" "[I" ∈ TT := tt_6 (i := 73) rfl rfl
theorem tw_7_66 : Cond.code yX12_streetAt cX12_streetAt 1 (some .int) ∈ TT := tt_7 (i := 66) rfl rfl
theorem tw_7_63 : Cond.methodLink RX12 199 yX12_streetAt ∈ TT := tt_7 (i := 63) rfl rfl
theorem tw_7_65 : Cond.instanceMethod yX12_streetAt ∈ TT := tt_7 (i := 65) rfl rfl
theorem tw_p_53 : Cond.selects RX12 yX12_streetAt yX12_streetAt ∈ TT := tt_p (i := 53) (q := (yX12_streetAt, 42)) rfl
theorem tw_7_74 : Cond.constantLong RX12 202 (12253591) ∈ TT := tt_7 (i := 74) rfl rfl
theorem tw_7_75 : Cond.constantLong RX12 204 (316351) ∈ TT := tt_7 (i := 75) rfl rfl
theorem tw_7_76 : Cond.constantLong RX12 206 (6673393) ∈ TT := tt_7 (i := 76) rfl rfl
theorem tw_7_41 : Cond.constantLong RX12 208 (237308) ∈ TT := tt_7 (i := 41) rfl rfl
theorem tw_7_45 : Cond.code yX12_isRoom cX12_isRoom 4 (some .boolean) ∈ TT := tt_7 (i := 45) rfl rfl
theorem tw_7_42 : Cond.methodLink RX12 210 yX12_isRoom ∈ TT := tt_7 (i := 42) rfl rfl
theorem tw_7_44 : Cond.instanceMethod yX12_isRoom ∈ TT := tt_7 (i := 44) rfl rfl
theorem tw_p_49 : Cond.selects RX12 yX12_isRoom yX12_isRoom ∈ TT := tt_p (i := 49) (q := (yX12_isRoom, 42)) rfl
theorem tw_7_77 : Cond.constantLong RX12 226 (206754213222) ∈ TT := tt_7 (i := 77) rfl rfl
theorem tw_6_74 : Cond.fieldLink RX12 46 "DarkGateModel" "stranger" "[I" ∈ TT := tt_6 (i := 74) rfl rfl
theorem tw_7_78 : Cond.constantLong RX12 228 (131638) ∈ TT := tt_7 (i := 78) rfl rfl
theorem tw_7_69 : Cond.constantLong RX12 221 (4562600) ∈ TT := tt_7 (i := 69) rfl rfl
theorem tw_7_73 : Cond.code yX12_houseLine cX12_houseLine 2 none ∈ TT := tt_7 (i := 73) rfl rfl
theorem tw_7_70 : Cond.methodLink RX12 223 yX12_houseLine ∈ TT := tt_7 (i := 70) rfl rfl
theorem tw_7_72 : Cond.instanceMethod yX12_houseLine ∈ TT := tt_7 (i := 72) rfl rfl
theorem tw_p_54 : Cond.selects RX12 yX12_houseLine yX12_houseLine ∈ TT := tt_p (i := 54) (q := (yX12_houseLine, 42)) rfl
theorem tw_7_62 : Cond.constantLong RX12 217 (139055) ∈ TT := tt_7 (i := 62) rfl rfl
theorem tw_6_72 : Cond.fieldLink RX12 40 "DarkGateModel" "gate" "[I" ∈ TT := tt_6 (i := 72) rfl rfl
theorem tw_7_68 : Cond.constantLong RX12 219 (4555648) ∈ TT := tt_7 (i := 68) rfl rfl
theorem tw_7_53 : Cond.code yX12_laneLine cX12_laneLine 2 none ∈ TT := tt_7 (i := 53) rfl rfl
theorem tw_7_50 : Cond.methodLink RX12 214 yX12_laneLine ∈ TT := tt_7 (i := 50) rfl rfl
theorem tw_7_52 : Cond.instanceMethod yX12_laneLine ∈ TT := tt_7 (i := 52) rfl rfl
theorem tw_p_51 : Cond.selects RX12 yX12_laneLine yX12_laneLine ∈ TT := tt_p (i := 51) (q := (yX12_laneLine, 42)) rfl
theorem tw_6_69 : Cond.fieldLink RX12 31 "DarkGateModel" "lines" "[I" ∈ TT := tt_6 (i := 69) rfl rfl
theorem tw_7_93 : Cond.code yX12_copyRow cX12_copyRow 5 none ∈ TT := tt_7 (i := 93) rfl rfl
theorem tw_7_91 : Cond.methodLink RX12 256 yX12_copyRow ∈ TT := tt_7 (i := 91) rfl rfl
theorem tw_7_92 : Cond.static yX12_copyRow ∈ TT := tt_7 (i := 92) rfl rfl
theorem tw_6_75 : Cond.fieldLink RX12 49 "DarkGateModel" "act" "[I" ∈ TT := tt_6 (i := 75) rfl rfl
theorem tw_6_225 : Cond.code yX12_clears cX12_clears 2 none ∈ TT := tt_6 (i := 225) rfl rfl
theorem tw_6_222 : Cond.methodLink RX12 230 yX12_clears ∈ TT := tt_6 (i := 222) rfl rfl
theorem tw_6_224 : Cond.instanceMethod yX12_clears ∈ TT := tt_6 (i := 224) rfl rfl
theorem tw_p_36 : Cond.selects RX12 yX12_clears yX12_clears ∈ TT := tt_p (i := 36) (q := (yX12_clears, 42)) rfl
theorem tw_6_233 : Cond.code yX12_begins cX12_begins 1 none ∈ TT := tt_6 (i := 233) rfl rfl
theorem tw_6_230 : Cond.methodLink RX12 233 yX12_begins ∈ TT := tt_6 (i := 230) rfl rfl
theorem tw_6_232 : Cond.instanceMethod yX12_begins ∈ TT := tt_6 (i := 232) rfl rfl
theorem tw_p_38 : Cond.selects RX12 yX12_begins yX12_begins ∈ TT := tt_p (i := 38) (q := (yX12_begins, 42)) rfl
theorem tw_7_10 : Cond.code yX12_isGood cX12_isGood 1 (some .boolean) ∈ TT := tt_7 (i := 10) rfl rfl
theorem tw_7_7 : Cond.methodLink RX12 236 yX12_isGood ∈ TT := tt_7 (i := 7) rfl rfl
theorem tw_7_9 : Cond.instanceMethod yX12_isGood ∈ TT := tt_7 (i := 9) rfl rfl
theorem tw_p_41 : Cond.selects RX12 yX12_isGood yX12_isGood ∈ TT := tt_p (i := 41) (q := (yX12_isGood, 42)) rfl
theorem tw_7_86 : Cond.code yX12_isOver cX12_isOver 1 none ∈ TT := tt_7 (i := 86) rfl rfl
theorem tw_7_83 : Cond.methodLink RX12 250 yX12_isOver ∈ TT := tt_7 (i := 83) rfl rfl
theorem tw_7_85 : Cond.instanceMethod yX12_isOver ∈ TT := tt_7 (i := 85) rfl rfl
theorem tw_p_56 : Cond.selects RX12 yX12_isOver yX12_isOver ∈ TT := tt_p (i := 56) (q := (yX12_isOver, 42)) rfl
theorem tw_7_90 : Cond.code yX12_copyTown cX12_copyTown 3 none ∈ TT := tt_7 (i := 90) rfl rfl
theorem tw_7_87 : Cond.methodLink RX12 253 yX12_copyTown ∈ TT := tt_7 (i := 87) rfl rfl
theorem tw_7_89 : Cond.instanceMethod yX12_copyTown ∈ TT := tt_7 (i := 89) rfl rfl
theorem tw_p_57 : Cond.selects RX12 yX12_copyTown yX12_copyTown ∈ TT := tt_p (i := 57) (q := (yX12_copyTown, 42)) rfl
theorem tw_7_40 : Cond.code yX12_line cX12_line 2 none ∈ TT := tt_7 (i := 40) rfl rfl
theorem tw_7_37 : Cond.methodLink RX12 244 yX12_line ∈ TT := tt_7 (i := 37) rfl rfl
theorem tw_7_39 : Cond.instanceMethod yX12_line ∈ TT := tt_7 (i := 39) rfl rfl
theorem tw_p_48 : Cond.selects RX12 yX12_line yX12_line ∈ TT := tt_p (i := 48) (q := (yX12_line, 42)) rfl
theorem tw_7_82 : Cond.code yX12_ends cX12_ends 1 none ∈ TT := tt_7 (i := 82) rfl rfl
theorem tw_7_79 : Cond.methodLink RX12 247 yX12_ends ∈ TT := tt_7 (i := 79) rfl rfl
theorem tw_7_81 : Cond.instanceMethod yX12_ends ∈ TT := tt_7 (i := 81) rfl rfl
theorem tw_p_55 : Cond.selects RX12 yX12_ends yX12_ends ∈ TT := tt_p (i := 55) (q := (yX12_ends, 42)) rfl
theorem tw_7_11 : Cond.constantLong RX12 240 (405230) ∈ TT := tt_7 (i := 11) rfl rfl
theorem tw_7_28 : Cond.constantLong RX12 242 (7657635988) ∈ TT := tt_7 (i := 28) rfl rfl
theorem tw_7_188 : Cond.constantLong RX12 260 (999) ∈ TT := tt_7 (i := 188) rfl rfl
theorem tw_6_77 : Cond.fieldLink RX12 262 "DarkGateModel" "open" "I" ∈ TT := tt_6 (i := 77) rfl rfl
theorem tw_6_78 : Cond.fieldLink RX12 56 "DarkGateModel" "hold" "[I" ∈ TT := tt_6 (i := 78) rfl rfl
theorem tw_7_109 : Cond.code yX12_isBit cX12_isBit 2 (some .boolean) ∈ TT := tt_7 (i := 109) rfl rfl
theorem tw_7_107 : Cond.methodLink RX12 265 yX12_isBit ∈ TT := tt_7 (i := 107) rfl rfl
theorem tw_7_108 : Cond.static yX12_isBit ∈ TT := tt_7 (i := 108) rfl rfl
theorem tw_6_79 : Cond.fieldLink RX12 59 "DarkGateModel" "minute" "[I" ∈ TT := tt_6 (i := 79) rfl rfl
theorem tw_7_160 : Cond.code yX12_takes_ cX12_takes_ 3 (some .int) ∈ TT := tt_7 (i := 160) rfl rfl
theorem tw_7_157 : Cond.methodLink RX12 269 yX12_takes_ ∈ TT := tt_7 (i := 157) rfl rfl
theorem tw_7_159 : Cond.instanceMethod yX12_takes_ ∈ TT := tt_7 (i := 159) rfl rfl
theorem tw_p_68 : Cond.selects RX12 yX12_takes_ yX12_takes_ ∈ TT := tt_p (i := 68) (q := (yX12_takes_, 42)) rfl
theorem tw_7_148 : Cond.code yX12_never cX12_never 2 none ∈ TT := tt_7 (i := 148) rfl rfl
theorem tw_7_145 : Cond.methodLink RX12 271 yX12_never ∈ TT := tt_7 (i := 145) rfl rfl
theorem tw_7_147 : Cond.instanceMethod yX12_never ∈ TT := tt_7 (i := 147) rfl rfl
theorem tw_p_65 : Cond.selects RX12 yX12_never yX12_never ∈ TT := tt_p (i := 65) (q := (yX12_never, 42)) rfl
theorem tw_7_156 : Cond.code yX12_lowers cX12_lowers 7 none ∈ TT := tt_7 (i := 156) rfl rfl
theorem tw_7_153 : Cond.methodLink RX12 276 yX12_lowers ∈ TT := tt_7 (i := 153) rfl rfl
theorem tw_7_155 : Cond.instanceMethod yX12_lowers ∈ TT := tt_7 (i := 155) rfl rfl
theorem tw_p_67 : Cond.selects RX12 yX12_lowers yX12_lowers ∈ TT := tt_p (i := 67) (q := (yX12_lowers, 42)) rfl
theorem tw_7_152 : Cond.code yX12_begins_ cX12_begins_ 3 none ∈ TT := tt_7 (i := 152) rfl rfl
theorem tw_7_149 : Cond.methodLink RX12 274 yX12_begins_ ∈ TT := tt_7 (i := 149) rfl rfl
theorem tw_7_151 : Cond.instanceMethod yX12_begins_ ∈ TT := tt_7 (i := 151) rfl rfl
theorem tw_p_66 : Cond.selects RX12 yX12_begins_ yX12_begins_ ∈ TT := tt_p (i := 66) (q := (yX12_begins_, 42)) rfl
theorem tw_7_106 : Cond.code yX12_lays cX12_lays 4 none ∈ TT := tt_7 (i := 106) rfl rfl
theorem tw_7_103 : Cond.methodLink RX12 279 yX12_lays ∈ TT := tt_7 (i := 103) rfl rfl
theorem tw_7_105 : Cond.instanceMethod yX12_lays ∈ TT := tt_7 (i := 105) rfl rfl
theorem tw_p_59 : Cond.selects RX12 yX12_lays yX12_lays ∈ TT := tt_p (i := 59) (q := (yX12_lays, 42)) rfl
theorem tw_7_144 : Cond.code yX12_darkens cX12_darkens 4 none ∈ TT := tt_7 (i := 144) rfl rfl
theorem tw_7_141 : Cond.methodLink RX12 282 yX12_darkens ∈ TT := tt_7 (i := 141) rfl rfl
theorem tw_7_143 : Cond.instanceMethod yX12_darkens ∈ TT := tt_7 (i := 143) rfl rfl
theorem tw_p_64 : Cond.selects RX12 yX12_darkens yX12_darkens ∈ TT := tt_p (i := 64) (q := (yX12_darkens, 42)) rfl
theorem tw_7_101 : Cond.code yX12_isLane cX12_isLane 2 (some .boolean) ∈ TT := tt_7 (i := 101) rfl rfl
theorem tw_7_98 : Cond.methodLink RX12 285 yX12_isLane ∈ TT := tt_7 (i := 98) rfl rfl
theorem tw_7_100 : Cond.instanceMethod yX12_isLane ∈ TT := tt_7 (i := 100) rfl rfl
theorem tw_p_58 : Cond.selects RX12 yX12_isLane yX12_isLane ∈ TT := tt_p (i := 58) (q := (yX12_isLane, 42)) rfl
theorem tw_7_102 : Cond.constantLong RX12 288 (4) ∈ TT := tt_7 (i := 102) rfl rfl
theorem tw_7_117 : Cond.code yX12_isGate cX12_isGate 2 (some .boolean) ∈ TT := tt_7 (i := 117) rfl rfl
theorem tw_7_114 : Cond.methodLink RX12 290 yX12_isGate ∈ TT := tt_7 (i := 114) rfl rfl
theorem tw_7_116 : Cond.instanceMethod yX12_isGate ∈ TT := tt_7 (i := 116) rfl rfl
theorem tw_p_60 : Cond.selects RX12 yX12_isGate yX12_isGate ∈ TT := tt_p (i := 60) (q := (yX12_isGate, 42)) rfl
theorem tw_7_120 : Cond.code yX12_isHalf cX12_isHalf 1 (some .boolean) ∈ TT := tt_7 (i := 120) rfl rfl
theorem tw_7_118 : Cond.methodLink RX12 293 yX12_isHalf ∈ TT := tt_7 (i := 118) rfl rfl
theorem tw_7_119 : Cond.static yX12_isHalf ∈ TT := tt_7 (i := 119) rfl rfl
theorem tw_7_128 : Cond.code yX12_isHouse cX12_isHouse 2 (some .boolean) ∈ TT := tt_7 (i := 128) rfl rfl
theorem tw_7_125 : Cond.methodLink RX12 296 yX12_isHouse ∈ TT := tt_7 (i := 125) rfl rfl
theorem tw_7_127 : Cond.instanceMethod yX12_isHouse ∈ TT := tt_7 (i := 127) rfl rfl
theorem tw_p_61 : Cond.selects RX12 yX12_isHouse yX12_isHouse ∈ TT := tt_p (i := 61) (q := (yX12_isHouse, 42)) rfl
theorem tw_7_136 : Cond.code yX12_isStreet cX12_isStreet 3 (some .boolean) ∈ TT := tt_7 (i := 136) rfl rfl
theorem tw_7_133 : Cond.methodLink RX12 299 yX12_isStreet ∈ TT := tt_7 (i := 133) rfl rfl
theorem tw_7_135 : Cond.instanceMethod yX12_isStreet ∈ TT := tt_7 (i := 135) rfl rfl
theorem tw_p_62 : Cond.selects RX12 yX12_isStreet yX12_isStreet ∈ TT := tt_p (i := 62) (q := (yX12_isStreet, 42)) rfl
theorem tw_7_140 : Cond.code yX12_now cX12_now 1 none ∈ TT := tt_7 (i := 140) rfl rfl
theorem tw_7_137 : Cond.methodLink RX12 302 yX12_now ∈ TT := tt_7 (i := 137) rfl rfl
theorem tw_7_139 : Cond.instanceMethod yX12_now ∈ TT := tt_7 (i := 139) rfl rfl
theorem tw_p_63 : Cond.selects RX12 yX12_now yX12_now ∈ TT := tt_p (i := 63) (q := (yX12_now, 42)) rfl
theorem tw_7_164 : Cond.code yX12_comesTo cX12_comesTo 2 (some .int) ∈ TT := tt_7 (i := 164) rfl rfl
theorem tw_7_161 : Cond.methodLink RX12 305 yX12_comesTo ∈ TT := tt_7 (i := 161) rfl rfl
theorem tw_7_163 : Cond.instanceMethod yX12_comesTo ∈ TT := tt_7 (i := 163) rfl rfl
theorem tw_p_69 : Cond.selects RX12 yX12_comesTo yX12_comesTo ∈ TT := tt_p (i := 69) (q := (yX12_comesTo, 42)) rfl
theorem tw_7_176 : Cond.code yX12_laneOf cX12_laneOf 4 (some .int) ∈ TT := tt_7 (i := 176) rfl rfl
theorem tw_7_173 : Cond.methodLink RX12 308 yX12_laneOf ∈ TT := tt_7 (i := 173) rfl rfl
theorem tw_7_175 : Cond.instanceMethod yX12_laneOf ∈ TT := tt_7 (i := 175) rfl rfl
theorem tw_p_70 : Cond.selects RX12 yX12_laneOf yX12_laneOf ∈ TT := tt_p (i := 70) (q := (yX12_laneOf, 42)) rfl
theorem tw_7_184 : Cond.code yX12_isTown cX12_isTown 1 (some .boolean) ∈ TT := tt_7 (i := 184) rfl rfl
theorem tw_7_181 : Cond.methodLink RX12 311 yX12_isTown ∈ TT := tt_7 (i := 181) rfl rfl
theorem tw_7_183 : Cond.instanceMethod yX12_isTown ∈ TT := tt_7 (i := 183) rfl rfl
theorem tw_p_71 : Cond.selects RX12 yX12_isTown yX12_isTown ∈ TT := tt_p (i := 71) (q := (yX12_isTown, 42)) rfl
theorem tw_7_187 : Cond.code yX12_isMinute cX12_isMinute 1 (some .boolean) ∈ TT := tt_7 (i := 187) rfl rfl
theorem tw_7_185 : Cond.methodLink RX12 314 yX12_isMinute ∈ TT := tt_7 (i := 185) rfl rfl
theorem tw_7_186 : Cond.static yX12_isMinute ∈ TT := tt_7 (i := 186) rfl rfl
theorem tw_7_196 : Cond.code yX12_fullOf cX12_fullOf 3 (some .int) ∈ TT := tt_7 (i := 196) rfl rfl
theorem tw_7_193 : Cond.methodLink RX12 317 yX12_fullOf ∈ TT := tt_7 (i := 193) rfl rfl
theorem tw_7_195 : Cond.instanceMethod yX12_fullOf ∈ TT := tt_7 (i := 195) rfl rfl
theorem tw_p_72 : Cond.selects RX12 yX12_fullOf yX12_fullOf ∈ TT := tt_p (i := 72) (q := (yX12_fullOf, 42)) rfl
theorem tw_6_80 : Cond.fieldLink RX12 62 "DarkGateModel" "was" "[I" ∈ TT := tt_6 (i := 80) rfl rfl
theorem tw_7_216 : Cond.code yX12_keeps cX12_keeps 2 none ∈ TT := tt_7 (i := 216) rfl rfl
theorem tw_7_213 : Cond.methodLink RX12 320 yX12_keeps ∈ TT := tt_7 (i := 213) rfl rfl
theorem tw_7_215 : Cond.instanceMethod yX12_keeps ∈ TT := tt_7 (i := 215) rfl rfl
theorem tw_p_73 : Cond.selects RX12 yX12_keeps yX12_keeps ∈ TT := tt_p (i := 73) (q := (yX12_keeps, 42)) rfl
theorem tw_7_224 : Cond.code yX12_later cX12_later 3 (some .int) ∈ TT := tt_7 (i := 224) rfl rfl
theorem tw_7_221 : Cond.methodLink RX12 323 yX12_later ∈ TT := tt_7 (i := 221) rfl rfl
theorem tw_7_223 : Cond.instanceMethod yX12_later ∈ TT := tt_7 (i := 223) rfl rfl
theorem tw_p_74 : Cond.selects RX12 yX12_later yX12_later ∈ TT := tt_p (i := 74) (q := (yX12_later, 42)) rfl
theorem tw_6_81 : Cond.fieldLink RX12 65 "DarkGateModel" "owner" "[I" ∈ TT := tt_6 (i := 81) rfl rfl
theorem tw_6_82 : Cond.fieldLink RX12 68 "DarkGateModel" "strange" "[I" ∈ TT := tt_6 (i := 82) rfl rfl
theorem tw_7_232 : Cond.code yX12_laysOwners cX12_laysOwners 4 none ∈ TT := tt_7 (i := 232) rfl rfl
theorem tw_7_229 : Cond.methodLink RX12 326 yX12_laysOwners ∈ TT := tt_7 (i := 229) rfl rfl
theorem tw_7_231 : Cond.instanceMethod yX12_laysOwners ∈ TT := tt_7 (i := 231) rfl rfl
theorem tw_p_75 : Cond.selects RX12 yX12_laysOwners yX12_laysOwners ∈ TT := tt_p (i := 75) (q := (yX12_laysOwners, 42)) rfl
theorem tw_8_12 : Cond.code yX12_gladOf cX12_gladOf 4 (some .int) ∈ TT := tt_8 (i := 12) rfl rfl
theorem tw_8_9 : Cond.methodLink RX12 329 yX12_gladOf ∈ TT := tt_8 (i := 9) rfl rfl
theorem tw_8_11 : Cond.instanceMethod yX12_gladOf ∈ TT := tt_8 (i := 11) rfl rfl
theorem tw_p_76 : Cond.selects RX12 yX12_gladOf yX12_gladOf ∈ TT := tt_p (i := 76) (q := (yX12_gladOf, 42)) rfl
theorem tw_8_20 : Cond.code yX12_gladAll cX12_gladAll 3 (some .int) ∈ TT := tt_8 (i := 20) rfl rfl
theorem tw_8_17 : Cond.methodLink RX12 332 yX12_gladAll ∈ TT := tt_8 (i := 17) rfl rfl
theorem tw_8_19 : Cond.instanceMethod yX12_gladAll ∈ TT := tt_8 (i := 19) rfl rfl
theorem tw_p_77 : Cond.selects RX12 yX12_gladAll yX12_gladAll ∈ TT := tt_p (i := 77) (q := (yX12_gladAll, 42)) rfl
theorem tw_8_40 : Cond.code yX12_gladBy cX12_gladBy 2 (some .int) ∈ TT := tt_8 (i := 40) rfl rfl
theorem tw_8_37 : Cond.methodLink RX12 335 yX12_gladBy ∈ TT := tt_8 (i := 37) rfl rfl
theorem tw_8_39 : Cond.instanceMethod yX12_gladBy ∈ TT := tt_8 (i := 39) rfl rfl
theorem tw_p_80 : Cond.selects RX12 yX12_gladBy yX12_gladBy ∈ TT := tt_p (i := 80) (q := (yX12_gladBy, 42)) rfl
theorem tw_6_83 : Cond.fieldLink RX12 338 "DarkGateModel" "bestGlad" "I" ∈ TT := tt_6 (i := 83) rfl rfl
theorem tw_8_43 : Cond.code yX12_sizeOf cX12_sizeOf 3 (some .int) ∈ TT := tt_8 (i := 43) rfl rfl
theorem tw_8_41 : Cond.methodLink RX12 341 yX12_sizeOf ∈ TT := tt_8 (i := 41) rfl rfl
theorem tw_8_42 : Cond.static yX12_sizeOf ∈ TT := tt_8 (i := 42) rfl rfl
theorem tw_8_32 : Cond.code yX12_isChange cX12_isChange 2 (some .boolean) ∈ TT := tt_8 (i := 32) rfl rfl
theorem tw_8_29 : Cond.methodLink RX12 344 yX12_isChange ∈ TT := tt_8 (i := 29) rfl rfl
theorem tw_8_31 : Cond.instanceMethod yX12_isChange ∈ TT := tt_8 (i := 31) rfl rfl
theorem tw_p_78 : Cond.selects RX12 yX12_isChange yX12_isChange ∈ TT := tt_p (i := 78) (q := (yX12_isChange, 42)) rfl
theorem tw_8_36 : Cond.code yX12_changesOf cX12_changesOf 6 (some .int) ∈ TT := tt_8 (i := 36) rfl rfl
theorem tw_8_33 : Cond.methodLink RX12 347 yX12_changesOf ∈ TT := tt_8 (i := 33) rfl rfl
theorem tw_8_35 : Cond.instanceMethod yX12_changesOf ∈ TT := tt_8 (i := 35) rfl rfl
theorem tw_p_79 : Cond.selects RX12 yX12_changesOf yX12_changesOf ∈ TT := tt_p (i := 79) (q := (yX12_changesOf, 42)) rfl
theorem tw_8_56 : Cond.constantLong RX12 350 (1000) ∈ TT := tt_8 (i := 56) rfl rfl
theorem tw_8_60 : Cond.code yX12_cutsOf cX12_cutsOf 5 (some .int) ∈ TT := tt_8 (i := 60) rfl rfl
theorem tw_8_57 : Cond.methodLink RX12 352 yX12_cutsOf ∈ TT := tt_8 (i := 57) rfl rfl
theorem tw_8_59 : Cond.instanceMethod yX12_cutsOf ∈ TT := tt_8 (i := 59) rfl rfl
theorem tw_p_81 : Cond.selects RX12 yX12_cutsOf yX12_cutsOf ∈ TT := tt_p (i := 81) (q := (yX12_cutsOf, 42)) rfl
theorem tw_8_76 : Cond.code yX12_asksOf cX12_asksOf 5 (some .int) ∈ TT := tt_8 (i := 76) rfl rfl
theorem tw_8_73 : Cond.methodLink RX12 355 yX12_asksOf ∈ TT := tt_8 (i := 73) rfl rfl
theorem tw_8_75 : Cond.instanceMethod yX12_asksOf ∈ TT := tt_8 (i := 75) rfl rfl
theorem tw_p_82 : Cond.selects RX12 yX12_asksOf yX12_asksOf ∈ TT := tt_p (i := 82) (q := (yX12_asksOf, 42)) rfl
theorem tw_6_84 : Cond.fieldLink RX12 71 "DarkGateModel" "isFit" "[Z" ∈ TT := tt_6 (i := 84) rfl rfl
theorem tw_6_85 : Cond.fieldLink RX12 74 "DarkGateModel" "seen" "[I" ∈ TT := tt_6 (i := 85) rfl rfl
theorem tw_8_88 : Cond.code yX12_whyNot cX12_whyNot 3 (some .int) ∈ TT := tt_8 (i := 88) rfl rfl
theorem tw_8_85 : Cond.methodLink RX12 358 yX12_whyNot ∈ TT := tt_8 (i := 85) rfl rfl
theorem tw_8_87 : Cond.instanceMethod yX12_whyNot ∈ TT := tt_8 (i := 87) rfl rfl
theorem tw_p_83 : Cond.selects RX12 yX12_whyNot yX12_whyNot ∈ TT := tt_p (i := 83) (q := (yX12_whyNot, 42)) rfl
theorem tw_8_92 : Cond.code yX12_laysFits cX12_laysFits 8 (some .int) ∈ TT := tt_8 (i := 92) rfl rfl
theorem tw_8_89 : Cond.methodLink RX12 361 yX12_laysFits ∈ TT := tt_8 (i := 89) rfl rfl
theorem tw_8_91 : Cond.instanceMethod yX12_laysFits ∈ TT := tt_8 (i := 91) rfl rfl
theorem tw_p_84 : Cond.selects RX12 yX12_laysFits yX12_laysFits ∈ TT := tt_p (i := 84) (q := (yX12_laysFits, 42)) rfl
theorem tw_6_88 : Cond.fieldLink RX12 364 "DarkGateModel" "askLeaves" "I" ∈ TT := tt_6 (i := 88) rfl rfl
theorem tw_6_87 : Cond.fieldLink RX12 367 "DarkGateModel" "askBest" "I" ∈ TT := tt_6 (i := 87) rfl rfl
theorem tw_6_86 : Cond.fieldLink RX12 77 "DarkGateModel" "often" "[I" ∈ TT := tt_6 (i := 86) rfl rfl
theorem tw_8_108 : Cond.code yX12_laysAsk cX12_laysAsk 6 none ∈ TT := tt_8 (i := 108) rfl rfl
theorem tw_8_105 : Cond.methodLink RX12 370 yX12_laysAsk ∈ TT := tt_8 (i := 105) rfl rfl
theorem tw_8_107 : Cond.instanceMethod yX12_laysAsk ∈ TT := tt_8 (i := 107) rfl rfl
theorem tw_p_85 : Cond.selects RX12 yX12_laysAsk yX12_laysAsk ∈ TT := tt_p (i := 85) (q := (yX12_laysAsk, 42)) rfl
theorem tw_6_89 : Cond.fieldLink RX12 373 "DarkGateModel" "placeLeast" "I" ∈ TT := tt_6 (i := 89) rfl rfl
theorem tw_8_120 : Cond.code yX12_isPlace cX12_isPlace 2 (some .boolean) ∈ TT := tt_8 (i := 120) rfl rfl
theorem tw_8_117 : Cond.methodLink RX12 376 yX12_isPlace ∈ TT := tt_8 (i := 117) rfl rfl
theorem tw_8_119 : Cond.instanceMethod yX12_isPlace ∈ TT := tt_8 (i := 119) rfl rfl
theorem tw_p_86 : Cond.selects RX12 yX12_isPlace yX12_isPlace ∈ TT := tt_p (i := 86) (q := (yX12_isPlace, 42)) rfl
theorem tw_8_124 : Cond.code yX12_placesOf cX12_placesOf 8 (some .int) ∈ TT := tt_8 (i := 124) rfl rfl
theorem tw_8_121 : Cond.methodLink RX12 379 yX12_placesOf ∈ TT := tt_8 (i := 121) rfl rfl
theorem tw_8_123 : Cond.instanceMethod yX12_placesOf ∈ TT := tt_8 (i := 123) rfl rfl
theorem tw_p_87 : Cond.selects RX12 yX12_placesOf yX12_placesOf ∈ TT := tt_p (i := 87) (q := (yX12_placesOf, 42)) rfl
theorem tw_6_90 : Cond.fieldLink RX12 80 "DarkGateModel" "room" "[I" ∈ TT := tt_6 (i := 90) rfl rfl
theorem tw_6_91 : Cond.fieldLink RX12 83 "DarkGateModel" "cartOf" "[I" ∈ TT := tt_6 (i := 91) rfl rfl
theorem tw_8_149 : Cond.code yX12_packs cX12_packs 5 (some .boolean) ∈ TT := tt_8 (i := 149) rfl rfl
theorem tw_8_146 : Cond.methodLink RX12 383 yX12_packs ∈ TT := tt_8 (i := 146) rfl rfl
theorem tw_8_148 : Cond.instanceMethod yX12_packs ∈ TT := tt_8 (i := 148) rfl rfl
theorem tw_p_90 : Cond.selects RX12 yX12_packs yX12_packs ∈ TT := tt_p (i := 90) (q := (yX12_packs, 42)) rfl
theorem tw_8_141 : Cond.constantLong RX12 386 (99) ∈ TT := tt_8 (i := 141) rfl rfl
theorem tw_8_140 : Cond.code yX12_isCart cX12_isCart 2 (some .boolean) ∈ TT := tt_8 (i := 140) rfl rfl
theorem tw_8_137 : Cond.methodLink RX12 388 yX12_isCart ∈ TT := tt_8 (i := 137) rfl rfl
theorem tw_8_139 : Cond.instanceMethod yX12_isCart ∈ TT := tt_8 (i := 139) rfl rfl
theorem tw_p_88 : Cond.selects RX12 yX12_isCart yX12_isCart ∈ TT := tt_p (i := 88) (q := (yX12_isCart, 42)) rfl
theorem tw_8_145 : Cond.code yX12_cartsOf cX12_cartsOf 4 (some .int) ∈ TT := tt_8 (i := 145) rfl rfl
theorem tw_8_142 : Cond.methodLink RX12 391 yX12_cartsOf ∈ TT := tt_8 (i := 142) rfl rfl
theorem tw_8_144 : Cond.instanceMethod yX12_cartsOf ∈ TT := tt_8 (i := 144) rfl rfl
theorem tw_p_89 : Cond.selects RX12 yX12_cartsOf yX12_cartsOf ∈ TT := tt_p (i := 89) (q := (yX12_cartsOf, 42)) rfl
theorem tw_8_161 : Cond.code yX12_winner cX12_winner 3 (some .int) ∈ TT := tt_8 (i := 161) rfl rfl
theorem tw_8_158 : Cond.methodLink RX12 394 yX12_winner ∈ TT := tt_8 (i := 158) rfl rfl
theorem tw_8_160 : Cond.instanceMethod yX12_winner ∈ TT := tt_8 (i := 160) rfl rfl
theorem tw_p_91 : Cond.selects RX12 yX12_winner yX12_winner ∈ TT := tt_p (i := 91) (q := (yX12_winner, 42)) rfl
theorem tw_6_92 : Cond.fieldLink RX12 86 "DarkGateModel" "game" "[I" ∈ TT := tt_6 (i := 92) rfl rfl
theorem tw_8_173 : Cond.code yX12_laysGame cX12_laysGame 3 none ∈ TT := tt_8 (i := 173) rfl rfl
theorem tw_8_170 : Cond.methodLink RX12 397 yX12_laysGame ∈ TT := tt_8 (i := 170) rfl rfl
theorem tw_8_172 : Cond.instanceMethod yX12_laysGame ∈ TT := tt_8 (i := 172) rfl rfl
theorem tw_p_92 : Cond.selects RX12 yX12_laysGame yX12_laysGame ∈ TT := tt_p (i := 92) (q := (yX12_laysGame, 42)) rfl
theorem tw_8_181 : Cond.code yX12_townHas cX12_townHas 4 (some .int) ∈ TT := tt_8 (i := 181) rfl rfl
theorem tw_8_178 : Cond.methodLink RX12 400 yX12_townHas ∈ TT := tt_8 (i := 178) rfl rfl
theorem tw_8_180 : Cond.instanceMethod yX12_townHas ∈ TT := tt_8 (i := 180) rfl rfl
theorem tw_p_93 : Cond.selects RX12 yX12_townHas yX12_townHas ∈ TT := tt_p (i := 93) (q := (yX12_townHas, 42)) rfl
theorem tw_8_194 : Cond.code yX12_common cX12_common 4 (some .long) ∈ TT := tt_8 (i := 194) rfl rfl
theorem tw_8_192 : Cond.methodLink RX12 403 yX12_common ∈ TT := tt_8 (i := 192) rfl rfl
theorem tw_8_193 : Cond.static yX12_common ∈ TT := tt_8 (i := 193) rfl rfl
theorem tw_6_93 : Cond.fieldLink RX12 89 "DarkGateModel" "weight" "[J" ∈ TT := tt_6 (i := 93) rfl rfl
theorem tw_6_94 : Cond.fieldLink RX12 407 "DarkGateModel" "weightAll" "J" ∈ TT := tt_6 (i := 94) rfl rfl
theorem tw_8_191 : Cond.constantLong RX12 410 (10) ∈ TT := tt_8 (i := 191) rfl rfl
theorem tw_8_186 : Cond.constantLong RX12 412 (-2) ∈ TT := tt_8 (i := 186) rfl rfl
theorem tw_8_190 : Cond.code yX12_laysChance cX12_laysChance 7 none ∈ TT := tt_8 (i := 190) rfl rfl
theorem tw_8_187 : Cond.methodLink RX12 414 yX12_laysChance ∈ TT := tt_8 (i := 187) rfl rfl
theorem tw_8_189 : Cond.instanceMethod yX12_laysChance ∈ TT := tt_8 (i := 189) rfl rfl
theorem tw_p_94 : Cond.selects RX12 yX12_laysChance yX12_laysChance ∈ TT := tt_p (i := 94) (q := (yX12_laysChance, 42)) rfl
theorem tw_8_199 : Cond.constantLong RX12 417 (100) ∈ TT := tt_8 (i := 199) rfl rfl
theorem tw_8_207 : Cond.code yX12_isFull cX12_isFull 1 (some .boolean) ∈ TT := tt_8 (i := 207) rfl rfl
theorem tw_8_204 : Cond.methodLink RX12 419 yX12_isFull ∈ TT := tt_8 (i := 204) rfl rfl
theorem tw_8_206 : Cond.instanceMethod yX12_isFull ∈ TT := tt_8 (i := 206) rfl rfl
theorem tw_p_95 : Cond.selects RX12 yX12_isFull yX12_isFull ∈ TT := tt_p (i := 95) (q := (yX12_isFull, 42)) rfl
theorem tw_8_211 : Cond.code yX12_acts cX12_acts 5 none ∈ TT := tt_8 (i := 211) rfl rfl
theorem tw_8_208 : Cond.methodLink RX12 422 yX12_acts ∈ TT := tt_8 (i := 208) rfl rfl
theorem tw_8_210 : Cond.instanceMethod yX12_acts ∈ TT := tt_8 (i := 210) rfl rfl
theorem tw_p_96 : Cond.selects RX12 yX12_acts yX12_acts ∈ TT := tt_p (i := 96) (q := (yX12_acts, 42)) rfl
theorem tw_8_237 : Cond.constantLong RX12 426 (1103515245) ∈ TT := tt_8 (i := 237) rfl rfl
theorem tw_8_238 : Cond.constantLong RX12 428 (12345) ∈ TT := tt_8 (i := 238) rfl rfl
theorem tw_8_239 : Cond.constantLong RX12 430 (2147483648) ∈ TT := tt_8 (i := 239) rfl rfl
theorem tw_9_0 : Cond.constantLong RX12 432 (65536) ∈ TT := tt_9 (i := 0) rfl rfl
theorem tw_8_232 : Cond.constantLong RX12 434 (2000000000) ∈ TT := tt_8 (i := 232) rfl rfl
theorem tw_8_231 : Cond.code yX12_isSeed cX12_isSeed 2 (some .boolean) ∈ TT := tt_8 (i := 231) rfl rfl
theorem tw_8_228 : Cond.methodLink RX12 436 yX12_isSeed ∈ TT := tt_8 (i := 228) rfl rfl
theorem tw_8_230 : Cond.instanceMethod yX12_isSeed ∈ TT := tt_8 (i := 230) rfl rfl
theorem tw_p_97 : Cond.selects RX12 yX12_isSeed yX12_isSeed ∈ TT := tt_p (i := 97) (q := (yX12_isSeed, 42)) rfl
theorem tw_8_236 : Cond.code yX12_drawnMud cX12_drawnMud 7 (some .int) ∈ TT := tt_8 (i := 236) rfl rfl
theorem tw_8_233 : Cond.methodLink RX12 439 yX12_drawnMud ∈ TT := tt_8 (i := 233) rfl rfl
theorem tw_8_235 : Cond.instanceMethod yX12_drawnMud ∈ TT := tt_8 (i := 235) rfl rfl
theorem tw_p_98 : Cond.selects RX12 yX12_drawnMud yX12_drawnMud ∈ TT := tt_p (i := 98) (q := (yX12_drawnMud, 42)) rfl
theorem tw_9_5 : Cond.constantLong RX12 443 (20) ∈ TT := tt_9 (i := 5) rfl rfl
theorem tw_9_10 : Cond.constantLong RX12 445 (2) ∈ TT := tt_9 (i := 10) rfl rfl
theorem tw_9_15 : Cond.constantLong RX12 447 (5) ∈ TT := tt_9 (i := 15) rfl rfl
theorem tw_6_76 : Cond.fieldLink RX12 52 "DarkGateModel" "isKept" "[Z" ∈ TT := tt_6 (i := 76) rfl rfl
theorem iT_X12 : ∀ w ∈ u_ws RX12 TX12 42, w ∈ TT := by
  intro w hw
  obtain ⟨j, hj, rfl⟩ := List.mem_map.mp hw
  have hj := List.mem_range.mp hj
  match j, hj with
  | 0, _ => exact tw_6_95
  | 1, _ => exact tw_6_97
  | 2, _ => exact tw_6_99
  | 3, _ => exact tw_6_101
  | 4, _ => exact tw_6_103
  | 5, _ => exact tw_6_105
  | 6, _ => exact tw_6_107
  | 7, _ => exact tw_6_109
  | 8, _ => exact tw_6_111
  | 9, _ => exact tw_6_113
  | 10, _ => exact tw_6_115
  | 11, _ => exact tw_6_117
  | 12, _ => exact tw_6_119
  | 13, _ => exact tw_6_121
  | 14, _ => exact tw_6_123
  | 15, _ => exact tw_6_125
  | 16, _ => exact tw_6_127
  | 17, _ => exact tw_6_129
  | 18, _ => exact tw_6_131
  | 19, _ => exact tw_6_133
  | 20, _ => exact tw_6_135
  | 21, _ => exact tw_6_137
  | 22, _ => exact tw_6_139
  | 23, _ => exact tw_6_141
  | 24, _ => exact tw_6_143
  | 25, _ => exact tw_6_145
  | 26, _ => exact tw_6_147
  | 27, _ => exact tw_6_149
  | 28, _ => exact tw_6_151
  | 29, _ => exact tw_6_153
  | 30, _ => exact tw_6_155
  | 31, _ => exact tw_6_157
  | 32, _ => exact tw_6_159
  | 33, _ => exact tw_6_161
  | 34, _ => exact tw_6_163
  | 35, _ => exact tw_6_165
  | 36, _ => exact tw_6_167
  | 37, _ => exact tw_6_169
  | 38, _ => exact tw_6_171
  | 39, _ => exact tw_6_173
  | 40, _ => exact tw_6_175
  | 41, _ => exact tw_6_177
  | j + 42, h => exact absurd h (by omega)
theorem hdS_X12_in : yX12_in.cls ≠ "java/lang/invoke/MethodHandle" ∧ yX12_in.cls ≠ "java/lang/invoke/VarHandle" ∧ (parseMethodDescriptor yX12_in.desc).map (fun d => d.parameters.length) = some 3 := by decide +kernel
theorem hdS_X12_isSlot : yX12_isSlot.cls ≠ "java/lang/invoke/MethodHandle" ∧ yX12_isSlot.cls ≠ "java/lang/invoke/VarHandle" ∧ (parseMethodDescriptor yX12_isSlot.desc).map (fun d => d.parameters.length) = some 1 := by decide +kernel
theorem hdS_X12_cut : yX12_cut.cls ≠ "java/lang/invoke/MethodHandle" ∧ yX12_cut.cls ≠ "java/lang/invoke/VarHandle" ∧ (parseMethodDescriptor yX12_cut.desc).map (fun d => d.parameters.length) = some 2 := by decide +kernel
theorem hdV_X12_four : yX12_four.cls = RX12 ∧ yX12_four.cls ≠ "java/lang/invoke/MethodHandle" ∧ yX12_four.cls ≠ "java/lang/invoke/VarHandle" ∧ (parseMethodDescriptor yX12_four.desc).map (fun d => d.parameters.length) = some 1 := by decide +kernel
theorem hdV_X12_isByte : yX12_isByte.cls = RX12 ∧ yX12_isByte.cls ≠ "java/lang/invoke/MethodHandle" ∧ yX12_isByte.cls ≠ "java/lang/invoke/VarHandle" ∧ (parseMethodDescriptor yX12_isByte.desc).map (fun d => d.parameters.length) = some 3 := by decide +kernel
theorem hdV_X12_is : yX12_is.cls = RX12 ∧ yX12_is.cls ≠ "java/lang/invoke/MethodHandle" ∧ yX12_is.cls ≠ "java/lang/invoke/VarHandle" ∧ (parseMethodDescriptor yX12_is.desc).map (fun d => d.parameters.length) = some 1 := by decide +kernel
theorem hdV_X12_next : yX12_next.cls = RX12 ∧ yX12_next.cls ≠ "java/lang/invoke/MethodHandle" ∧ yX12_next.cls ≠ "java/lang/invoke/VarHandle" ∧ (parseMethodDescriptor yX12_next.desc).map (fun d => d.parameters.length) = some 0 := by decide +kernel
theorem hdV_X12_takes : yX12_takes.cls = RX12 ∧ yX12_takes.cls ≠ "java/lang/invoke/MethodHandle" ∧ yX12_takes.cls ≠ "java/lang/invoke/VarHandle" ∧ (parseMethodDescriptor yX12_takes.desc).map (fun d => d.parameters.length) = some 1 := by decide +kernel
theorem hdV_X12_fails : yX12_fails.cls = RX12 ∧ yX12_fails.cls ≠ "java/lang/invoke/MethodHandle" ∧ yX12_fails.cls ≠ "java/lang/invoke/VarHandle" ∧ (parseMethodDescriptor yX12_fails.desc).map (fun d => d.parameters.length) = some 1 := by decide +kernel
theorem hdV_X12_asks : yX12_asks.cls = RX12 ∧ yX12_asks.cls ≠ "java/lang/invoke/MethodHandle" ∧ yX12_asks.cls ≠ "java/lang/invoke/VarHandle" ∧ (parseMethodDescriptor yX12_asks.desc).map (fun d => d.parameters.length) = some 1 := by decide +kernel
theorem hdV_X12_number : yX12_number.cls = RX12 ∧ yX12_number.cls ≠ "java/lang/invoke/MethodHandle" ∧ yX12_number.cls ≠ "java/lang/invoke/VarHandle" ∧ (parseMethodDescriptor yX12_number.desc).map (fun d => d.parameters.length) = some 2 := by decide +kernel
theorem hdV_X12_hasRead : yX12_hasRead.cls = RX12 ∧ yX12_hasRead.cls ≠ "java/lang/invoke/MethodHandle" ∧ yX12_hasRead.cls ≠ "java/lang/invoke/VarHandle" ∧ (parseMethodDescriptor yX12_hasRead.desc).map (fun d => d.parameters.length) = some 1 := by decide +kernel
theorem hdV_X12_streetHere : yX12_streetHere.cls = RX12 ∧ yX12_streetHere.cls ≠ "java/lang/invoke/MethodHandle" ∧ yX12_streetHere.cls ≠ "java/lang/invoke/VarHandle" ∧ (parseMethodDescriptor yX12_streetHere.desc).map (fun d => d.parameters.length) = some 0 := by decide +kernel
theorem hdV_X12_number_ : yX12_number_.cls = RX12 ∧ yX12_number_.cls ≠ "java/lang/invoke/MethodHandle" ∧ yX12_number_.cls ≠ "java/lang/invoke/VarHandle" ∧ (parseMethodDescriptor yX12_number_.desc).map (fun d => d.parameters.length) = some 3 := by decide +kernel
theorem hdV_X12_tells : yX12_tells.cls = RX12 ∧ yX12_tells.cls ≠ "java/lang/invoke/MethodHandle" ∧ yX12_tells.cls ≠ "java/lang/invoke/VarHandle" ∧ (parseMethodDescriptor yX12_tells.desc).map (fun d => d.parameters.length) = some 2 := by decide +kernel
theorem hdV_X12_streetAt : yX12_streetAt.cls = RX12 ∧ yX12_streetAt.cls ≠ "java/lang/invoke/MethodHandle" ∧ yX12_streetAt.cls ≠ "java/lang/invoke/VarHandle" ∧ (parseMethodDescriptor yX12_streetAt.desc).map (fun d => d.parameters.length) = some 0 := by decide +kernel
theorem hdV_X12_isRoom : yX12_isRoom.cls = RX12 ∧ yX12_isRoom.cls ≠ "java/lang/invoke/MethodHandle" ∧ yX12_isRoom.cls ≠ "java/lang/invoke/VarHandle" ∧ (parseMethodDescriptor yX12_isRoom.desc).map (fun d => d.parameters.length) = some 3 := by decide +kernel
theorem hdV_X12_houseLine : yX12_houseLine.cls = RX12 ∧ yX12_houseLine.cls ≠ "java/lang/invoke/MethodHandle" ∧ yX12_houseLine.cls ≠ "java/lang/invoke/VarHandle" ∧ (parseMethodDescriptor yX12_houseLine.desc).map (fun d => d.parameters.length) = some 0 := by decide +kernel
theorem hdV_X12_laneLine : yX12_laneLine.cls = RX12 ∧ yX12_laneLine.cls ≠ "java/lang/invoke/MethodHandle" ∧ yX12_laneLine.cls ≠ "java/lang/invoke/VarHandle" ∧ (parseMethodDescriptor yX12_laneLine.desc).map (fun d => d.parameters.length) = some 0 := by decide +kernel
theorem hdS_X12_copyRow : yX12_copyRow.cls ≠ "java/lang/invoke/MethodHandle" ∧ yX12_copyRow.cls ≠ "java/lang/invoke/VarHandle" ∧ (parseMethodDescriptor yX12_copyRow.desc).map (fun d => d.parameters.length) = some 4 := by decide +kernel
theorem hdV_X12_clears : yX12_clears.cls = RX12 ∧ yX12_clears.cls ≠ "java/lang/invoke/MethodHandle" ∧ yX12_clears.cls ≠ "java/lang/invoke/VarHandle" ∧ (parseMethodDescriptor yX12_clears.desc).map (fun d => d.parameters.length) = some 0 := by decide +kernel
theorem hdV_X12_begins : yX12_begins.cls = RX12 ∧ yX12_begins.cls ≠ "java/lang/invoke/MethodHandle" ∧ yX12_begins.cls ≠ "java/lang/invoke/VarHandle" ∧ (parseMethodDescriptor yX12_begins.desc).map (fun d => d.parameters.length) = some 0 := by decide +kernel
theorem hdV_X12_isGood : yX12_isGood.cls = RX12 ∧ yX12_isGood.cls ≠ "java/lang/invoke/MethodHandle" ∧ yX12_isGood.cls ≠ "java/lang/invoke/VarHandle" ∧ (parseMethodDescriptor yX12_isGood.desc).map (fun d => d.parameters.length) = some 0 := by decide +kernel
theorem hdV_X12_isOver : yX12_isOver.cls = RX12 ∧ yX12_isOver.cls ≠ "java/lang/invoke/MethodHandle" ∧ yX12_isOver.cls ≠ "java/lang/invoke/VarHandle" ∧ (parseMethodDescriptor yX12_isOver.desc).map (fun d => d.parameters.length) = some 0 := by decide +kernel
theorem hdV_X12_copyTown : yX12_copyTown.cls = RX12 ∧ yX12_copyTown.cls ≠ "java/lang/invoke/MethodHandle" ∧ yX12_copyTown.cls ≠ "java/lang/invoke/VarHandle" ∧ (parseMethodDescriptor yX12_copyTown.desc).map (fun d => d.parameters.length) = some 2 := by decide +kernel
theorem hdV_X12_line : yX12_line.cls = RX12 ∧ yX12_line.cls ≠ "java/lang/invoke/MethodHandle" ∧ yX12_line.cls ≠ "java/lang/invoke/VarHandle" ∧ (parseMethodDescriptor yX12_line.desc).map (fun d => d.parameters.length) = some 0 := by decide +kernel
theorem hdV_X12_ends : yX12_ends.cls = RX12 ∧ yX12_ends.cls ≠ "java/lang/invoke/MethodHandle" ∧ yX12_ends.cls ≠ "java/lang/invoke/VarHandle" ∧ (parseMethodDescriptor yX12_ends.desc).map (fun d => d.parameters.length) = some 0 := by decide +kernel
theorem hdS_X12_isBit : yX12_isBit.cls ≠ "java/lang/invoke/MethodHandle" ∧ yX12_isBit.cls ≠ "java/lang/invoke/VarHandle" ∧ (parseMethodDescriptor yX12_isBit.desc).map (fun d => d.parameters.length) = some 2 := by decide +kernel
theorem hdV_X12_takes_ : yX12_takes_.cls = RX12 ∧ yX12_takes_.cls ≠ "java/lang/invoke/MethodHandle" ∧ yX12_takes_.cls ≠ "java/lang/invoke/VarHandle" ∧ (parseMethodDescriptor yX12_takes_.desc).map (fun d => d.parameters.length) = some 2 := by decide +kernel
theorem hdV_X12_never : yX12_never.cls = RX12 ∧ yX12_never.cls ≠ "java/lang/invoke/MethodHandle" ∧ yX12_never.cls ≠ "java/lang/invoke/VarHandle" ∧ (parseMethodDescriptor yX12_never.desc).map (fun d => d.parameters.length) = some 0 := by decide +kernel
theorem hdV_X12_lowers : yX12_lowers.cls = RX12 ∧ yX12_lowers.cls ≠ "java/lang/invoke/MethodHandle" ∧ yX12_lowers.cls ≠ "java/lang/invoke/VarHandle" ∧ (parseMethodDescriptor yX12_lowers.desc).map (fun d => d.parameters.length) = some 2 := by decide +kernel
theorem hdV_X12_begins_ : yX12_begins_.cls = RX12 ∧ yX12_begins_.cls ≠ "java/lang/invoke/MethodHandle" ∧ yX12_begins_.cls ≠ "java/lang/invoke/VarHandle" ∧ (parseMethodDescriptor yX12_begins_.desc).map (fun d => d.parameters.length) = some 2 := by decide +kernel
theorem hdV_X12_lays : yX12_lays.cls = RX12 ∧ yX12_lays.cls ≠ "java/lang/invoke/MethodHandle" ∧ yX12_lays.cls ≠ "java/lang/invoke/VarHandle" ∧ (parseMethodDescriptor yX12_lays.desc).map (fun d => d.parameters.length) = some 0 := by decide +kernel
theorem hdV_X12_darkens : yX12_darkens.cls = RX12 ∧ yX12_darkens.cls ≠ "java/lang/invoke/MethodHandle" ∧ yX12_darkens.cls ≠ "java/lang/invoke/VarHandle" ∧ (parseMethodDescriptor yX12_darkens.desc).map (fun d => d.parameters.length) = some 2 := by decide +kernel
theorem hdV_X12_isLane : yX12_isLane.cls = RX12 ∧ yX12_isLane.cls ≠ "java/lang/invoke/MethodHandle" ∧ yX12_isLane.cls ≠ "java/lang/invoke/VarHandle" ∧ (parseMethodDescriptor yX12_isLane.desc).map (fun d => d.parameters.length) = some 1 := by decide +kernel
theorem hdV_X12_isGate : yX12_isGate.cls = RX12 ∧ yX12_isGate.cls ≠ "java/lang/invoke/MethodHandle" ∧ yX12_isGate.cls ≠ "java/lang/invoke/VarHandle" ∧ (parseMethodDescriptor yX12_isGate.desc).map (fun d => d.parameters.length) = some 1 := by decide +kernel
theorem hdS_X12_isHalf : yX12_isHalf.cls ≠ "java/lang/invoke/MethodHandle" ∧ yX12_isHalf.cls ≠ "java/lang/invoke/VarHandle" ∧ (parseMethodDescriptor yX12_isHalf.desc).map (fun d => d.parameters.length) = some 1 := by decide +kernel
theorem hdV_X12_isHouse : yX12_isHouse.cls = RX12 ∧ yX12_isHouse.cls ≠ "java/lang/invoke/MethodHandle" ∧ yX12_isHouse.cls ≠ "java/lang/invoke/VarHandle" ∧ (parseMethodDescriptor yX12_isHouse.desc).map (fun d => d.parameters.length) = some 1 := by decide +kernel
theorem hdV_X12_isStreet : yX12_isStreet.cls = RX12 ∧ yX12_isStreet.cls ≠ "java/lang/invoke/MethodHandle" ∧ yX12_isStreet.cls ≠ "java/lang/invoke/VarHandle" ∧ (parseMethodDescriptor yX12_isStreet.desc).map (fun d => d.parameters.length) = some 1 := by decide +kernel
theorem hdV_X12_now : yX12_now.cls = RX12 ∧ yX12_now.cls ≠ "java/lang/invoke/MethodHandle" ∧ yX12_now.cls ≠ "java/lang/invoke/VarHandle" ∧ (parseMethodDescriptor yX12_now.desc).map (fun d => d.parameters.length) = some 0 := by decide +kernel
theorem hdV_X12_comesTo : yX12_comesTo.cls = RX12 ∧ yX12_comesTo.cls ≠ "java/lang/invoke/MethodHandle" ∧ yX12_comesTo.cls ≠ "java/lang/invoke/VarHandle" ∧ (parseMethodDescriptor yX12_comesTo.desc).map (fun d => d.parameters.length) = some 1 := by decide +kernel
theorem hdV_X12_laneOf : yX12_laneOf.cls = RX12 ∧ yX12_laneOf.cls ≠ "java/lang/invoke/MethodHandle" ∧ yX12_laneOf.cls ≠ "java/lang/invoke/VarHandle" ∧ (parseMethodDescriptor yX12_laneOf.desc).map (fun d => d.parameters.length) = some 1 := by decide +kernel
theorem hdV_X12_isTown : yX12_isTown.cls = RX12 ∧ yX12_isTown.cls ≠ "java/lang/invoke/MethodHandle" ∧ yX12_isTown.cls ≠ "java/lang/invoke/VarHandle" ∧ (parseMethodDescriptor yX12_isTown.desc).map (fun d => d.parameters.length) = some 0 := by decide +kernel
theorem hdS_X12_isMinute : yX12_isMinute.cls ≠ "java/lang/invoke/MethodHandle" ∧ yX12_isMinute.cls ≠ "java/lang/invoke/VarHandle" ∧ (parseMethodDescriptor yX12_isMinute.desc).map (fun d => d.parameters.length) = some 1 := by decide +kernel
theorem hdV_X12_fullOf : yX12_fullOf.cls = RX12 ∧ yX12_fullOf.cls ≠ "java/lang/invoke/MethodHandle" ∧ yX12_fullOf.cls ≠ "java/lang/invoke/VarHandle" ∧ (parseMethodDescriptor yX12_fullOf.desc).map (fun d => d.parameters.length) = some 0 := by decide +kernel
theorem hdV_X12_keeps : yX12_keeps.cls = RX12 ∧ yX12_keeps.cls ≠ "java/lang/invoke/MethodHandle" ∧ yX12_keeps.cls ≠ "java/lang/invoke/VarHandle" ∧ (parseMethodDescriptor yX12_keeps.desc).map (fun d => d.parameters.length) = some 0 := by decide +kernel
theorem hdV_X12_later : yX12_later.cls = RX12 ∧ yX12_later.cls ≠ "java/lang/invoke/MethodHandle" ∧ yX12_later.cls ≠ "java/lang/invoke/VarHandle" ∧ (parseMethodDescriptor yX12_later.desc).map (fun d => d.parameters.length) = some 0 := by decide +kernel
theorem hdV_X12_laysOwners : yX12_laysOwners.cls = RX12 ∧ yX12_laysOwners.cls ≠ "java/lang/invoke/MethodHandle" ∧ yX12_laysOwners.cls ≠ "java/lang/invoke/VarHandle" ∧ (parseMethodDescriptor yX12_laysOwners.desc).map (fun d => d.parameters.length) = some 0 := by decide +kernel
theorem hdV_X12_gladOf : yX12_gladOf.cls = RX12 ∧ yX12_gladOf.cls ≠ "java/lang/invoke/MethodHandle" ∧ yX12_gladOf.cls ≠ "java/lang/invoke/VarHandle" ∧ (parseMethodDescriptor yX12_gladOf.desc).map (fun d => d.parameters.length) = some 1 := by decide +kernel
theorem hdV_X12_gladAll : yX12_gladAll.cls = RX12 ∧ yX12_gladAll.cls ≠ "java/lang/invoke/MethodHandle" ∧ yX12_gladAll.cls ≠ "java/lang/invoke/VarHandle" ∧ (parseMethodDescriptor yX12_gladAll.desc).map (fun d => d.parameters.length) = some 0 := by decide +kernel
theorem hdV_X12_gladBy : yX12_gladBy.cls = RX12 ∧ yX12_gladBy.cls ≠ "java/lang/invoke/MethodHandle" ∧ yX12_gladBy.cls ≠ "java/lang/invoke/VarHandle" ∧ (parseMethodDescriptor yX12_gladBy.desc).map (fun d => d.parameters.length) = some 1 := by decide +kernel
theorem hdS_X12_sizeOf : yX12_sizeOf.cls ≠ "java/lang/invoke/MethodHandle" ∧ yX12_sizeOf.cls ≠ "java/lang/invoke/VarHandle" ∧ (parseMethodDescriptor yX12_sizeOf.desc).map (fun d => d.parameters.length) = some 1 := by decide +kernel
theorem hdV_X12_isChange : yX12_isChange.cls = RX12 ∧ yX12_isChange.cls ≠ "java/lang/invoke/MethodHandle" ∧ yX12_isChange.cls ≠ "java/lang/invoke/VarHandle" ∧ (parseMethodDescriptor yX12_isChange.desc).map (fun d => d.parameters.length) = some 1 := by decide +kernel
theorem hdV_X12_changesOf : yX12_changesOf.cls = RX12 ∧ yX12_changesOf.cls ≠ "java/lang/invoke/MethodHandle" ∧ yX12_changesOf.cls ≠ "java/lang/invoke/VarHandle" ∧ (parseMethodDescriptor yX12_changesOf.desc).map (fun d => d.parameters.length) = some 2 := by decide +kernel
theorem hdV_X12_cutsOf : yX12_cutsOf.cls = RX12 ∧ yX12_cutsOf.cls ≠ "java/lang/invoke/MethodHandle" ∧ yX12_cutsOf.cls ≠ "java/lang/invoke/VarHandle" ∧ (parseMethodDescriptor yX12_cutsOf.desc).map (fun d => d.parameters.length) = some 2 := by decide +kernel
theorem hdV_X12_asksOf : yX12_asksOf.cls = RX12 ∧ yX12_asksOf.cls ≠ "java/lang/invoke/MethodHandle" ∧ yX12_asksOf.cls ≠ "java/lang/invoke/VarHandle" ∧ (parseMethodDescriptor yX12_asksOf.desc).map (fun d => d.parameters.length) = some 1 := by decide +kernel
theorem hdV_X12_whyNot : yX12_whyNot.cls = RX12 ∧ yX12_whyNot.cls ≠ "java/lang/invoke/MethodHandle" ∧ yX12_whyNot.cls ≠ "java/lang/invoke/VarHandle" ∧ (parseMethodDescriptor yX12_whyNot.desc).map (fun d => d.parameters.length) = some 1 := by decide +kernel
theorem hdV_X12_laysFits : yX12_laysFits.cls = RX12 ∧ yX12_laysFits.cls ≠ "java/lang/invoke/MethodHandle" ∧ yX12_laysFits.cls ≠ "java/lang/invoke/VarHandle" ∧ (parseMethodDescriptor yX12_laysFits.desc).map (fun d => d.parameters.length) = some 1 := by decide +kernel
theorem hdV_X12_laysAsk : yX12_laysAsk.cls = RX12 ∧ yX12_laysAsk.cls ≠ "java/lang/invoke/MethodHandle" ∧ yX12_laysAsk.cls ≠ "java/lang/invoke/VarHandle" ∧ (parseMethodDescriptor yX12_laysAsk.desc).map (fun d => d.parameters.length) = some 1 := by decide +kernel
theorem hdV_X12_isPlace : yX12_isPlace.cls = RX12 ∧ yX12_isPlace.cls ≠ "java/lang/invoke/MethodHandle" ∧ yX12_isPlace.cls ≠ "java/lang/invoke/VarHandle" ∧ (parseMethodDescriptor yX12_isPlace.desc).map (fun d => d.parameters.length) = some 1 := by decide +kernel
theorem hdV_X12_placesOf : yX12_placesOf.cls = RX12 ∧ yX12_placesOf.cls ≠ "java/lang/invoke/MethodHandle" ∧ yX12_placesOf.cls ≠ "java/lang/invoke/VarHandle" ∧ (parseMethodDescriptor yX12_placesOf.desc).map (fun d => d.parameters.length) = some 2 := by decide +kernel
theorem hdV_X12_packs : yX12_packs.cls = RX12 ∧ yX12_packs.cls ≠ "java/lang/invoke/MethodHandle" ∧ yX12_packs.cls ≠ "java/lang/invoke/VarHandle" ∧ (parseMethodDescriptor yX12_packs.desc).map (fun d => d.parameters.length) = some 3 := by decide +kernel
theorem hdV_X12_isCart : yX12_isCart.cls = RX12 ∧ yX12_isCart.cls ≠ "java/lang/invoke/MethodHandle" ∧ yX12_isCart.cls ≠ "java/lang/invoke/VarHandle" ∧ (parseMethodDescriptor yX12_isCart.desc).map (fun d => d.parameters.length) = some 1 := by decide +kernel
theorem hdV_X12_cartsOf : yX12_cartsOf.cls = RX12 ∧ yX12_cartsOf.cls ≠ "java/lang/invoke/MethodHandle" ∧ yX12_cartsOf.cls ≠ "java/lang/invoke/VarHandle" ∧ (parseMethodDescriptor yX12_cartsOf.desc).map (fun d => d.parameters.length) = some 1 := by decide +kernel
theorem hdV_X12_winner : yX12_winner.cls = RX12 ∧ yX12_winner.cls ≠ "java/lang/invoke/MethodHandle" ∧ yX12_winner.cls ≠ "java/lang/invoke/VarHandle" ∧ (parseMethodDescriptor yX12_winner.desc).map (fun d => d.parameters.length) = some 0 := by decide +kernel
theorem hdV_X12_laysGame : yX12_laysGame.cls = RX12 ∧ yX12_laysGame.cls ≠ "java/lang/invoke/MethodHandle" ∧ yX12_laysGame.cls ≠ "java/lang/invoke/VarHandle" ∧ (parseMethodDescriptor yX12_laysGame.desc).map (fun d => d.parameters.length) = some 0 := by decide +kernel
theorem hdV_X12_townHas : yX12_townHas.cls = RX12 ∧ yX12_townHas.cls ≠ "java/lang/invoke/MethodHandle" ∧ yX12_townHas.cls ≠ "java/lang/invoke/VarHandle" ∧ (parseMethodDescriptor yX12_townHas.desc).map (fun d => d.parameters.length) = some 1 := by decide +kernel
theorem hdS_X12_common : yX12_common.cls ≠ "java/lang/invoke/MethodHandle" ∧ yX12_common.cls ≠ "java/lang/invoke/VarHandle" ∧ (parseMethodDescriptor yX12_common.desc).map (fun d => d.parameters.length) = some 2 := by decide +kernel
theorem hdV_X12_laysChance : yX12_laysChance.cls = RX12 ∧ yX12_laysChance.cls ≠ "java/lang/invoke/MethodHandle" ∧ yX12_laysChance.cls ≠ "java/lang/invoke/VarHandle" ∧ (parseMethodDescriptor yX12_laysChance.desc).map (fun d => d.parameters.length) = some 1 := by decide +kernel
theorem hdV_X12_isFull : yX12_isFull.cls = RX12 ∧ yX12_isFull.cls ≠ "java/lang/invoke/MethodHandle" ∧ yX12_isFull.cls ≠ "java/lang/invoke/VarHandle" ∧ (parseMethodDescriptor yX12_isFull.desc).map (fun d => d.parameters.length) = some 0 := by decide +kernel
theorem hdV_X12_acts : yX12_acts.cls = RX12 ∧ yX12_acts.cls ≠ "java/lang/invoke/MethodHandle" ∧ yX12_acts.cls ≠ "java/lang/invoke/VarHandle" ∧ (parseMethodDescriptor yX12_acts.desc).map (fun d => d.parameters.length) = some 3 := by decide +kernel
theorem hdV_X12_isSeed : yX12_isSeed.cls = RX12 ∧ yX12_isSeed.cls ≠ "java/lang/invoke/MethodHandle" ∧ yX12_isSeed.cls ≠ "java/lang/invoke/VarHandle" ∧ (parseMethodDescriptor yX12_isSeed.desc).map (fun d => d.parameters.length) = some 1 := by decide +kernel
theorem hdV_X12_drawnMud : yX12_drawnMud.cls = RX12 ∧ yX12_drawnMud.cls ≠ "java/lang/invoke/MethodHandle" ∧ yX12_drawnMud.cls ≠ "java/lang/invoke/VarHandle" ∧ (parseMethodDescriptor yX12_drawnMud.desc).map (fun d => d.parameters.length) = some 1 := by decide +kernel
