theorem tw_6_187 : Cond.constantLong RX12 95 (3) ∈ TT := tt_6 (i := 187) rfl rfl
theorem tw_6_190 : Cond.code yX12_in cX12_in 6 (some .boolean) ∈ TT := tt_6 (i := 190) rfl rfl
theorem tw_6_188 : Cond.methodLink RX12 97 yX12_in ∈ TT := tt_6 (i := 188) rfl rfl
theorem tw_6_189 : Cond.static yX12_in ∈ TT := tt_6 (i := 189) rfl rfl
theorem tw_1_13 : Cond.initialized RX12 ∈ TT := tt_1 (i := 13) rfl rfl
theorem tw_6_53 : Cond.fieldLink RX12 92 "DarkGateModel" "thrown" "I" ∈ TT := tt_6 (i := 53) rfl rfl
theorem tw_6_95 : Cond.lays RX12 "DarkGateModel" "thrown" "I" ∈ TT := tt_6 (i := 95) rfl rfl
theorem tw_6_97 : Cond.laysFinal RX12 "DarkGateModel" "width" "[I" ∈ TT := tt_6 (i := 97) rfl rfl
theorem tw_6_99 : Cond.laysFinal RX12 "DarkGateModel" "many" "[I" ∈ TT := tt_6 (i := 99) rfl rfl
theorem tw_6_101 : Cond.laysFinal RX12 "DarkGateModel" "cells" "[J" ∈ TT := tt_6 (i := 101) rfl rfl
theorem tw_6_103 : Cond.laysFinal RX12 "DarkGateModel" "moved" "[J" ∈ TT := tt_6 (i := 103) rfl rfl
theorem tw_6_105 : Cond.laysFinal RX12 "DarkGateModel" "tape" "[B" ∈ TT := tt_6 (i := 105) rfl rfl
theorem tw_6_107 : Cond.lays RX12 "DarkGateModel" "taped" "I" ∈ TT := tt_6 (i := 107) rfl rfl
theorem tw_6_109 : Cond.lays RX12 "DarkGateModel" "at" "I" ∈ TT := tt_6 (i := 109) rfl rfl
theorem tw_6_111 : Cond.lays RX12 "DarkGateModel" "token" "I" ∈ TT := tt_6 (i := 111) rfl rfl
theorem tw_6_113 : Cond.lays RX12 "DarkGateModel" "place" "I" ∈ TT := tt_6 (i := 113) rfl rfl
theorem tw_6_115 : Cond.lays RX12 "DarkGateModel" "value" "I" ∈ TT := tt_6 (i := 115) rfl rfl
theorem tw_6_117 : Cond.lays RX12 "DarkGateModel" "word" "J" ∈ TT := tt_6 (i := 117) rfl rfl
theorem tw_6_119 : Cond.lays RX12 "DarkGateModel" "bad" "I" ∈ TT := tt_6 (i := 119) rfl rfl
theorem tw_6_121 : Cond.lays RX12 "DarkGateModel" "badPlace" "I" ∈ TT := tt_6 (i := 121) rfl rfl
theorem tw_6_123 : Cond.lays RX12 "DarkGateModel" "fault" "I" ∈ TT := tt_6 (i := 123) rfl rfl
theorem tw_6_125 : Cond.lays RX12 "DarkGateModel" "faultPlace" "I" ∈ TT := tt_6 (i := 125) rfl rfl
theorem tw_6_127 : Cond.laysFinal RX12 "DarkGateModel" "lines" "[I" ∈ TT := tt_6 (i := 127) rfl rfl
theorem tw_6_129 : Cond.laysFinal RX12 "DarkGateModel" "has" "[I" ∈ TT := tt_6 (i := 129) rfl rfl
theorem tw_6_131 : Cond.laysFinal RX12 "DarkGateModel" "lane" "[I" ∈ TT := tt_6 (i := 131) rfl rfl
theorem tw_6_133 : Cond.laysFinal RX12 "DarkGateModel" "gate" "[I" ∈ TT := tt_6 (i := 133) rfl rfl
theorem tw_6_135 : Cond.laysFinal RX12 "DarkGateModel" "house" "[I" ∈ TT := tt_6 (i := 135) rfl rfl
theorem tw_6_137 : Cond.laysFinal RX12 "DarkGateModel" "stranger" "[I" ∈ TT := tt_6 (i := 137) rfl rfl
theorem tw_6_139 : Cond.laysFinal RX12 "DarkGateModel" "act" "[I" ∈ TT := tt_6 (i := 139) rfl rfl
theorem tw_6_141 : Cond.laysFinal RX12 "DarkGateModel" "isKept" "[Z" ∈ TT := tt_6 (i := 141) rfl rfl
theorem tw_6_143 : Cond.lays RX12 "DarkGateModel" "open" "I" ∈ TT := tt_6 (i := 143) rfl rfl
theorem tw_6_145 : Cond.laysFinal RX12 "DarkGateModel" "hold" "[I" ∈ TT := tt_6 (i := 145) rfl rfl
theorem tw_6_147 : Cond.laysFinal RX12 "DarkGateModel" "minute" "[I" ∈ TT := tt_6 (i := 147) rfl rfl
theorem tw_6_149 : Cond.laysFinal RX12 "DarkGateModel" "was" "[I" ∈ TT := tt_6 (i := 149) rfl rfl
theorem tw_6_151 : Cond.laysFinal RX12 "DarkGateModel" "owner" "[I" ∈ TT := tt_6 (i := 151) rfl rfl
theorem tw_6_153 : Cond.laysFinal RX12 "DarkGateModel" "strange" "[I" ∈ TT := tt_6 (i := 153) rfl rfl
theorem tw_6_155 : Cond.lays RX12 "DarkGateModel" "bestGlad" "I" ∈ TT := tt_6 (i := 155) rfl rfl
theorem tw_6_157 : Cond.laysFinal RX12 "DarkGateModel" "isFit" "[Z" ∈ TT := tt_6 (i := 157) rfl rfl
theorem tw_6_159 : Cond.laysFinal RX12 "DarkGateModel" "seen" "[I" ∈ TT := tt_6 (i := 159) rfl rfl
theorem tw_6_161 : Cond.laysFinal RX12 "DarkGateModel" "often" "[I" ∈ TT := tt_6 (i := 161) rfl rfl
theorem tw_6_163 : Cond.lays RX12 "DarkGateModel" "askBest" "I" ∈ TT := tt_6 (i := 163) rfl rfl
theorem tw_6_165 : Cond.lays RX12 "DarkGateModel" "askLeaves" "I" ∈ TT := tt_6 (i := 165) rfl rfl
theorem tw_6_167 : Cond.lays RX12 "DarkGateModel" "placeLeast" "I" ∈ TT := tt_6 (i := 167) rfl rfl
theorem tw_6_169 : Cond.laysFinal RX12 "DarkGateModel" "room" "[I" ∈ TT := tt_6 (i := 169) rfl rfl
theorem tw_6_171 : Cond.laysFinal RX12 "DarkGateModel" "cartOf" "[I" ∈ TT := tt_6 (i := 171) rfl rfl
theorem tw_6_173 : Cond.laysFinal RX12 "DarkGateModel" "game" "[I" ∈ TT := tt_6 (i := 173) rfl rfl
theorem tw_6_175 : Cond.laysFinal RX12 "DarkGateModel" "weight" "[J" ∈ TT := tt_6 (i := 175) rfl rfl
theorem tw_6_177 : Cond.lays RX12 "DarkGateModel" "weightAll" "J" ∈ TT := tt_6 (i := 177) rfl rfl
theorem tw_6_186 : Cond.code yX12_isSlot cX12_isSlot 1 (some .boolean) ∈ TT := tt_6 (i := 186) rfl rfl
theorem tw_6_184 : Cond.methodLink RX12 101 yX12_isSlot ∈ TT := tt_6 (i := 184) rfl rfl
theorem tw_6_185 : Cond.static yX12_isSlot ∈ TT := tt_6 (i := 185) rfl rfl
theorem tw_6_54 : Cond.fieldLink RX12 7 "DarkGateModel" "width" "[I" ∈ TT := tt_6 (i := 54) rfl rfl
theorem tw_6_55 : Cond.fieldLink RX12 13 "DarkGateModel" "many" "[I" ∈ TT := tt_6 (i := 55) rfl rfl
theorem tw_6_56 : Cond.fieldLink RX12 16 "DarkGateModel" "cells" "[J" ∈ TT := tt_6 (i := 56) rfl rfl
theorem tw_6_197 : Cond.code yX12_cut cX12_cut 3 (some .long) ∈ TT := tt_6 (i := 197) rfl rfl
theorem tw_6_195 : Cond.methodLink RX12 105 yX12_cut ∈ TT := tt_6 (i := 195) rfl rfl
theorem tw_6_196 : Cond.static yX12_cut ∈ TT := tt_6 (i := 196) rfl rfl
theorem tw_6_57 : Cond.fieldLink RX12 20 "DarkGateModel" "moved" "[J" ∈ TT := tt_6 (i := 57) rfl rfl
theorem tw_6_58 : Cond.fieldLink RX12 23 "DarkGateModel" "tape" "[B" ∈ TT := tt_6 (i := 58) rfl rfl
theorem tw_6_59 : Cond.fieldLink RX12 109 "DarkGateModel" "taped" "I" ∈ TT := tt_6 (i := 59) rfl rfl
theorem tw_6_209 : Cond.code yX12_four cX12_four 3 none ∈ TT := tt_6 (i := 209) rfl rfl
theorem tw_6_206 : Cond.methodLink RX12 112 yX12_four ∈ TT := tt_6 (i := 206) rfl rfl
theorem tw_6_208 : Cond.instanceMethod yX12_four ∈ TT := tt_6 (i := 208) rfl rfl
theorem tw_p_35 : Cond.selects RX12 yX12_four yX12_four ∈ TT := tt_p (i := 35) (q := (yX12_four, 42)) rfl
theorem tw_6_60 : Cond.fieldLink RX12 116 "DarkGateModel" "at" "I" ∈ TT := tt_6 (i := 60) rfl rfl
theorem tw_7_1 : Cond.code yX12_isByte cX12_isByte 4 (some .boolean) ∈ TT := tt_7 (i := 1) rfl rfl
theorem tw_6_238 : Cond.methodLink RX12 119 yX12_isByte ∈ TT := tt_6 (i := 238) rfl rfl
theorem tw_7_0 : Cond.instanceMethod yX12_isByte ∈ TT := tt_7 (i := 0) rfl rfl
theorem tw_p_40 : Cond.selects RX12 yX12_isByte yX12_isByte ∈ TT := tt_p (i := 40) (q := (yX12_isByte, 42)) rfl
theorem tw_6_62 : Cond.fieldLink RX12 123 "DarkGateModel" "place" "I" ∈ TT := tt_6 (i := 62) rfl rfl
theorem tw_6_63 : Cond.fieldLink RX12 126 "DarkGateModel" "value" "I" ∈ TT := tt_6 (i := 63) rfl rfl
theorem tw_6_64 : Cond.fieldLink RX12 129 "DarkGateModel" "word" "J" ∈ TT := tt_6 (i := 64) rfl rfl
theorem tw_6_61 : Cond.fieldLink RX12 133 "DarkGateModel" "token" "I" ∈ TT := tt_6 (i := 61) rfl rfl
theorem tw_7_5 : Cond.constant RX12 142 (100000) ∈ TT := tt_7 (i := 5) rfl rfl
theorem tw_7_6 : Cond.constant RX12 143 (1000000) ∈ TT := tt_7 (i := 6) rfl rfl
theorem tw_7_3 : Cond.constantLong RX12 138 (27) ∈ TT := tt_7 (i := 3) rfl rfl
theorem tw_7_4 : Cond.constantLong RX12 140 (96) ∈ TT := tt_7 (i := 4) rfl rfl
theorem tw_7_2 : Cond.constantLong RX12 136 (-1) ∈ TT := tt_7 (i := 2) rfl rfl
theorem tw_6_65 : Cond.fieldLink RX12 144 "DarkGateModel" "bad" "I" ∈ TT := tt_6 (i := 65) rfl rfl
theorem tw_6_66 : Cond.fieldLink RX12 147 "DarkGateModel" "badPlace" "I" ∈ TT := tt_6 (i := 66) rfl rfl
theorem tw_7_23 : Cond.code yX12_is cX12_is 3 (some .boolean) ∈ TT := tt_7 (i := 23) rfl rfl
theorem tw_7_20 : Cond.methodLink RX12 150 yX12_is ∈ TT := tt_7 (i := 20) rfl rfl
theorem tw_7_22 : Cond.instanceMethod yX12_is ∈ TT := tt_7 (i := 22) rfl rfl
theorem tw_p_44 : Cond.selects RX12 yX12_is yX12_is ∈ TT := tt_p (i := 44) (q := (yX12_is, 42)) rfl
theorem tw_6_237 : Cond.code yX12_next cX12_next 2 none ∈ TT := tt_6 (i := 237) rfl rfl
theorem tw_6_234 : Cond.methodLink RX12 154 yX12_next ∈ TT := tt_6 (i := 234) rfl rfl
theorem tw_6_236 : Cond.instanceMethod yX12_next ∈ TT := tt_6 (i := 236) rfl rfl
theorem tw_p_39 : Cond.selects RX12 yX12_next yX12_next ∈ TT := tt_p (i := 39) (q := (yX12_next, 42)) rfl
theorem tw_7_19 : Cond.code yX12_takes cX12_takes 3 (some .boolean) ∈ TT := tt_7 (i := 19) rfl rfl
theorem tw_7_16 : Cond.methodLink RX12 157 yX12_takes ∈ TT := tt_7 (i := 16) rfl rfl
theorem tw_7_18 : Cond.instanceMethod yX12_takes ∈ TT := tt_7 (i := 18) rfl rfl
theorem tw_p_43 : Cond.selects RX12 yX12_takes yX12_takes ∈ TT := tt_p (i := 43) (q := (yX12_takes, 42)) rfl
theorem tw_7_27 : Cond.code yX12_fails cX12_fails 2 none ∈ TT := tt_7 (i := 27) rfl rfl
theorem tw_7_24 : Cond.methodLink RX12 160 yX12_fails ∈ TT := tt_7 (i := 24) rfl rfl
theorem tw_7_26 : Cond.instanceMethod yX12_fails ∈ TT := tt_7 (i := 26) rfl rfl
theorem tw_p_45 : Cond.selects RX12 yX12_fails yX12_fails ∈ TT := tt_p (i := 45) (q := (yX12_fails, 42)) rfl
theorem tw_7_15 : Cond.code yX12_asks cX12_asks 3 none ∈ TT := tt_7 (i := 15) rfl rfl
theorem tw_7_12 : Cond.methodLink RX12 163 yX12_asks ∈ TT := tt_7 (i := 12) rfl rfl
theorem tw_7_14 : Cond.instanceMethod yX12_asks ∈ TT := tt_7 (i := 14) rfl rfl
theorem tw_p_42 : Cond.selects RX12 yX12_asks yX12_asks ∈ TT := tt_p (i := 42) (q := (yX12_asks, 42)) rfl
theorem tw_7_36 : Cond.code yX12_number cX12_number 4 (some .int) ∈ TT := tt_7 (i := 36) rfl rfl
theorem tw_7_33 : Cond.methodLink RX12 167 yX12_number ∈ TT := tt_7 (i := 33) rfl rfl
theorem tw_7_35 : Cond.instanceMethod yX12_number ∈ TT := tt_7 (i := 35) rfl rfl
theorem tw_p_47 : Cond.selects RX12 yX12_number yX12_number ∈ TT := tt_p (i := 47) (q := (yX12_number, 42)) rfl
theorem tw_6_67 : Cond.fieldLink RX12 171 "DarkGateModel" "fault" "I" ∈ TT := tt_6 (i := 67) rfl rfl
theorem tw_6_68 : Cond.fieldLink RX12 27 "DarkGateModel" "faultPlace" "I" ∈ TT := tt_6 (i := 68) rfl rfl
theorem tw_6_70 : Cond.fieldLink RX12 34 "DarkGateModel" "has" "[I" ∈ TT := tt_6 (i := 70) rfl rfl
theorem tw_7_49 : Cond.code yX12_hasRead cX12_hasRead 2 (some .int) ∈ TT := tt_7 (i := 49) rfl rfl
theorem tw_7_46 : Cond.methodLink RX12 174 yX12_hasRead ∈ TT := tt_7 (i := 46) rfl rfl
theorem tw_7_48 : Cond.instanceMethod yX12_hasRead ∈ TT := tt_7 (i := 48) rfl rfl
theorem tw_p_50 : Cond.selects RX12 yX12_hasRead yX12_hasRead ∈ TT := tt_p (i := 50) (q := (yX12_hasRead, 42)) rfl
theorem tw_7_67 : Cond.constantLong RX12 178 (47) ∈ TT := tt_7 (i := 67) rfl rfl
theorem tw_7_57 : Cond.code yX12_streetHere cX12_streetHere 1 (some .int) ∈ TT := tt_7 (i := 57) rfl rfl
theorem tw_7_54 : Cond.methodLink RX12 180 yX12_streetHere ∈ TT := tt_7 (i := 54) rfl rfl
theorem tw_7_56 : Cond.instanceMethod yX12_streetHere ∈ TT := tt_7 (i := 56) rfl rfl
theorem tw_p_52 : Cond.selects RX12 yX12_streetHere yX12_streetHere ∈ TT := tt_p (i := 52) (q := (yX12_streetHere, 42)) rfl
theorem tw_6_71 : Cond.fieldLink RX12 37 "DarkGateModel" "lane" "[I" ∈ TT := tt_6 (i := 71) rfl rfl
theorem tw_7_58 : Cond.constantLong RX12 184 (555) ∈ TT := tt_7 (i := 58) rfl rfl
theorem tw_7_59 : Cond.constantLong RX12 186 (10656676) ∈ TT := tt_7 (i := 59) rfl rfl
theorem tw_7_32 : Cond.code yX12_number_ cX12_number_ 5 (some .int) ∈ TT := tt_7 (i := 32) rfl rfl
theorem tw_7_29 : Cond.methodLink RX12 188 yX12_number_ ∈ TT := tt_7 (i := 29) rfl rfl
theorem tw_7_31 : Cond.instanceMethod yX12_number_ ∈ TT := tt_7 (i := 31) rfl rfl
theorem tw_p_46 : Cond.selects RX12 yX12_number_ yX12_number_ ∈ TT := tt_p (i := 46) (q := (yX12_number_, 42)) rfl
theorem tw_6_229 : Cond.code yX12_tells cX12_tells 3 none ∈ TT := tt_6 (i := 229) rfl rfl
theorem tw_6_226 : Cond.methodLink RX12 195 yX12_tells ∈ TT := tt_6 (i := 226) rfl rfl
theorem tw_6_228 : Cond.instanceMethod yX12_tells ∈ TT := tt_6 (i := 228) rfl rfl
theorem tw_p_37 : Cond.selects RX12 yX12_tells yX12_tells ∈ TT := tt_p (i := 37) (q := (yX12_tells, 42)) rfl
theorem tw_7_61 : Cond.constantLong RX12 193 (29596810) ∈ TT := tt_7 (i := 61) rfl rfl
theorem tw_7_60 : Cond.constantLong RX12 191 (7325125) ∈ TT := tt_7 (i := 60) rfl rfl
theorem tw_6_73 : Cond.fieldLink RX12 43 "DarkGateModel" "house" "[I" ∈ TT := tt_6 (i := 73) rfl rfl
theorem tw_7_66 : Cond.code yX12_streetAt cX12_streetAt 1 (some .int) ∈ TT := tt_7 (i := 66) rfl rfl
theorem tw_7_63 : Cond.methodLink RX12 199 yX12_streetAt ∈ TT := tt_7 (i := 63) rfl rfl
theorem tw_7_65 : Cond.instanceMethod yX12_streetAt ∈ TT := tt_7 (i := 65) rfl rfl
theorem tw_p_53 : Cond.selects RX12 yX12_streetAt yX12_streetAt ∈ TT := tt_p (i := 53) (q := (yX12_streetAt, 42)) rfl
theorem tw_7_74 : Cond.constantLong RX12 202 (12253591) ∈ TT := tt_7 (i := 74) rfl rfl
theorem tw_7_75 : Cond.constantLong RX12 204 (316351) ∈ TT := tt_7 (i := 75) rfl rfl
theorem tw_7_76 : Cond.constantLong RX12 206 (6673393) ∈ TT := tt_7 (i := 76) rfl rfl
theorem tw_7_41 : Cond.constantLong RX12 208 (237308) ∈ TT := tt_7 (i := 41) rfl rfl
theorem tw_7_45 : Cond.code yX12_isRoom cX12_isRoom 4 (some .boolean) ∈ TT := tt_7 (i := 45) rfl rfl
theorem tw_7_42 : Cond.methodLink RX12 210 yX12_isRoom ∈ TT := tt_7 (i := 42) rfl rfl
theorem tw_7_44 : Cond.instanceMethod yX12_isRoom ∈ TT := tt_7 (i := 44) rfl rfl
theorem tw_p_49 : Cond.selects RX12 yX12_isRoom yX12_isRoom ∈ TT := tt_p (i := 49) (q := (yX12_isRoom, 42)) rfl
theorem tw_7_77 : Cond.constantLong RX12 226 (206754213222) ∈ TT := tt_7 (i := 77) rfl rfl
theorem tw_6_74 : Cond.fieldLink RX12 46 "DarkGateModel" "stranger" "[I" ∈ TT := tt_6 (i := 74) rfl rfl
theorem tw_7_78 : Cond.constantLong RX12 228 (131638) ∈ TT := tt_7 (i := 78) rfl rfl
theorem tw_7_69 : Cond.constantLong RX12 221 (4562600) ∈ TT := tt_7 (i := 69) rfl rfl
theorem tw_7_73 : Cond.code yX12_houseLine cX12_houseLine 2 none ∈ TT := tt_7 (i := 73) rfl rfl
theorem tw_7_70 : Cond.methodLink RX12 223 yX12_houseLine ∈ TT := tt_7 (i := 70) rfl rfl
theorem tw_7_72 : Cond.instanceMethod yX12_houseLine ∈ TT := tt_7 (i := 72) rfl rfl
theorem tw_p_54 : Cond.selects RX12 yX12_houseLine yX12_houseLine ∈ TT := tt_p (i := 54) (q := (yX12_houseLine, 42)) rfl
theorem tw_7_62 : Cond.constantLong RX12 217 (139055) ∈ TT := tt_7 (i := 62) rfl rfl
theorem tw_6_72 : Cond.fieldLink RX12 40 "DarkGateModel" "gate" "[I" ∈ TT := tt_6 (i := 72) rfl rfl
theorem tw_7_68 : Cond.constantLong RX12 219 (4555648) ∈ TT := tt_7 (i := 68) rfl rfl
theorem tw_7_53 : Cond.code yX12_laneLine cX12_laneLine 2 none ∈ TT := tt_7 (i := 53) rfl rfl
theorem tw_7_50 : Cond.methodLink RX12 214 yX12_laneLine ∈ TT := tt_7 (i := 50) rfl rfl
theorem tw_7_52 : Cond.instanceMethod yX12_laneLine ∈ TT := tt_7 (i := 52) rfl rfl
theorem tw_p_51 : Cond.selects RX12 yX12_laneLine yX12_laneLine ∈ TT := tt_p (i := 51) (q := (yX12_laneLine, 42)) rfl
theorem tw_6_69 : Cond.fieldLink RX12 31 "DarkGateModel" "lines" "[I" ∈ TT := tt_6 (i := 69) rfl rfl
theorem tw_7_93 : Cond.code yX12_copyRow cX12_copyRow 5 none ∈ TT := tt_7 (i := 93) rfl rfl
theorem tw_7_91 : Cond.methodLink RX12 256 yX12_copyRow ∈ TT := tt_7 (i := 91) rfl rfl
theorem tw_7_92 : Cond.static yX12_copyRow ∈ TT := tt_7 (i := 92) rfl rfl
theorem tw_6_75 : Cond.fieldLink RX12 49 "DarkGateModel" "act" "[I" ∈ TT := tt_6 (i := 75) rfl rfl
theorem tw_6_225 : Cond.code yX12_clears cX12_clears 2 none ∈ TT := tt_6 (i := 225) rfl rfl
theorem tw_6_222 : Cond.methodLink RX12 230 yX12_clears ∈ TT := tt_6 (i := 222) rfl rfl
theorem tw_6_224 : Cond.instanceMethod yX12_clears ∈ TT := tt_6 (i := 224) rfl rfl
theorem tw_p_36 : Cond.selects RX12 yX12_clears yX12_clears ∈ TT := tt_p (i := 36) (q := (yX12_clears, 42)) rfl
theorem tw_6_233 : Cond.code yX12_begins cX12_begins 1 none ∈ TT := tt_6 (i := 233) rfl rfl
theorem tw_6_230 : Cond.methodLink RX12 233 yX12_begins ∈ TT := tt_6 (i := 230) rfl rfl
theorem tw_6_232 : Cond.instanceMethod yX12_begins ∈ TT := tt_6 (i := 232) rfl rfl
theorem tw_p_38 : Cond.selects RX12 yX12_begins yX12_begins ∈ TT := tt_p (i := 38) (q := (yX12_begins, 42)) rfl
theorem tw_7_10 : Cond.code yX12_isGood cX12_isGood 1 (some .boolean) ∈ TT := tt_7 (i := 10) rfl rfl
theorem tw_7_7 : Cond.methodLink RX12 236 yX12_isGood ∈ TT := tt_7 (i := 7) rfl rfl
theorem tw_7_9 : Cond.instanceMethod yX12_isGood ∈ TT := tt_7 (i := 9) rfl rfl
theorem tw_p_41 : Cond.selects RX12 yX12_isGood yX12_isGood ∈ TT := tt_p (i := 41) (q := (yX12_isGood, 42)) rfl
theorem tw_7_86 : Cond.code yX12_isOver cX12_isOver 1 none ∈ TT := tt_7 (i := 86) rfl rfl
theorem tw_7_83 : Cond.methodLink RX12 250 yX12_isOver ∈ TT := tt_7 (i := 83) rfl rfl
theorem tw_7_85 : Cond.instanceMethod yX12_isOver ∈ TT := tt_7 (i := 85) rfl rfl
theorem tw_p_56 : Cond.selects RX12 yX12_isOver yX12_isOver ∈ TT := tt_p (i := 56) (q := (yX12_isOver, 42)) rfl
theorem tw_7_90 : Cond.code yX12_copyTown cX12_copyTown 3 none ∈ TT := tt_7 (i := 90) rfl rfl
theorem tw_7_87 : Cond.methodLink RX12 253 yX12_copyTown ∈ TT := tt_7 (i := 87) rfl rfl
theorem tw_7_89 : Cond.instanceMethod yX12_copyTown ∈ TT := tt_7 (i := 89) rfl rfl
theorem tw_p_57 : Cond.selects RX12 yX12_copyTown yX12_copyTown ∈ TT := tt_p (i := 57) (q := (yX12_copyTown, 42)) rfl
theorem tw_7_40 : Cond.code yX12_line cX12_line 2 none ∈ TT := tt_7 (i := 40) rfl rfl
theorem tw_7_37 : Cond.methodLink RX12 244 yX12_line ∈ TT := tt_7 (i := 37) rfl rfl
theorem tw_7_39 : Cond.instanceMethod yX12_line ∈ TT := tt_7 (i := 39) rfl rfl
theorem tw_p_48 : Cond.selects RX12 yX12_line yX12_line ∈ TT := tt_p (i := 48) (q := (yX12_line, 42)) rfl
theorem tw_7_82 : Cond.code yX12_ends cX12_ends 1 none ∈ TT := tt_7 (i := 82) rfl rfl
theorem tw_7_79 : Cond.methodLink RX12 247 yX12_ends ∈ TT := tt_7 (i := 79) rfl rfl
theorem tw_7_81 : Cond.instanceMethod yX12_ends ∈ TT := tt_7 (i := 81) rfl rfl
theorem tw_p_55 : Cond.selects RX12 yX12_ends yX12_ends ∈ TT := tt_p (i := 55) (q := (yX12_ends, 42)) rfl
theorem tw_7_11 : Cond.constantLong RX12 240 (405230) ∈ TT := tt_7 (i := 11) rfl rfl
theorem tw_7_28 : Cond.constantLong RX12 242 (7657635988) ∈ TT := tt_7 (i := 28) rfl rfl
theorem tw_7_188 : Cond.constantLong RX12 260 (999) ∈ TT := tt_7 (i := 188) rfl rfl
theorem tw_6_77 : Cond.fieldLink RX12 262 "DarkGateModel" "open" "I" ∈ TT := tt_6 (i := 77) rfl rfl
theorem tw_6_78 : Cond.fieldLink RX12 56 "DarkGateModel" "hold" "[I" ∈ TT := tt_6 (i := 78) rfl rfl
theorem tw_7_109 : Cond.code yX12_isBit cX12_isBit 2 (some .boolean) ∈ TT := tt_7 (i := 109) rfl rfl
theorem tw_7_107 : Cond.methodLink RX12 265 yX12_isBit ∈ TT := tt_7 (i := 107) rfl rfl
theorem tw_7_108 : Cond.static yX12_isBit ∈ TT := tt_7 (i := 108) rfl rfl
theorem tw_6_79 : Cond.fieldLink RX12 59 "DarkGateModel" "minute" "[I" ∈ TT := tt_6 (i := 79) rfl rfl
theorem tw_7_160 : Cond.code yX12_takes_ cX12_takes_ 3 (some .int) ∈ TT := tt_7 (i := 160) rfl rfl
theorem tw_7_157 : Cond.methodLink RX12 269 yX12_takes_ ∈ TT := tt_7 (i := 157) rfl rfl
theorem tw_7_159 : Cond.instanceMethod yX12_takes_ ∈ TT := tt_7 (i := 159) rfl rfl
theorem tw_p_68 : Cond.selects RX12 yX12_takes_ yX12_takes_ ∈ TT := tt_p (i := 68) (q := (yX12_takes_, 42)) rfl
theorem tw_7_148 : Cond.code yX12_never cX12_never 2 none ∈ TT := tt_7 (i := 148) rfl rfl
theorem tw_7_145 : Cond.methodLink RX12 271 yX12_never ∈ TT := tt_7 (i := 145) rfl rfl
theorem tw_7_147 : Cond.instanceMethod yX12_never ∈ TT := tt_7 (i := 147) rfl rfl
theorem tw_p_65 : Cond.selects RX12 yX12_never yX12_never ∈ TT := tt_p (i := 65) (q := (yX12_never, 42)) rfl
theorem tw_7_156 : Cond.code yX12_lowers cX12_lowers 7 none ∈ TT := tt_7 (i := 156) rfl rfl
theorem tw_7_153 : Cond.methodLink RX12 276 yX12_lowers ∈ TT := tt_7 (i := 153) rfl rfl
theorem tw_7_155 : Cond.instanceMethod yX12_lowers ∈ TT := tt_7 (i := 155) rfl rfl
theorem tw_p_67 : Cond.selects RX12 yX12_lowers yX12_lowers ∈ TT := tt_p (i := 67) (q := (yX12_lowers, 42)) rfl
theorem tw_7_152 : Cond.code yX12_begins_ cX12_begins_ 3 none ∈ TT := tt_7 (i := 152) rfl rfl
theorem tw_7_149 : Cond.methodLink RX12 274 yX12_begins_ ∈ TT := tt_7 (i := 149) rfl rfl
theorem tw_7_151 : Cond.instanceMethod yX12_begins_ ∈ TT := tt_7 (i := 151) rfl rfl
theorem tw_p_66 : Cond.selects RX12 yX12_begins_ yX12_begins_ ∈ TT := tt_p (i := 66) (q := (yX12_begins_, 42)) rfl
theorem tw_7_106 : Cond.code yX12_lays cX12_lays 4 none ∈ TT := tt_7 (i := 106) rfl rfl
theorem tw_7_103 : Cond.methodLink RX12 279 yX12_lays ∈ TT := tt_7 (i := 103) rfl rfl
theorem tw_7_105 : Cond.instanceMethod yX12_lays ∈ TT := tt_7 (i := 105) rfl rfl
theorem tw_p_59 : Cond.selects RX12 yX12_lays yX12_lays ∈ TT := tt_p (i := 59) (q := (yX12_lays, 42)) rfl
theorem tw_7_144 : Cond.code yX12_darkens cX12_darkens 4 none ∈ TT := tt_7 (i := 144) rfl rfl
theorem tw_7_141 : Cond.methodLink RX12 282 yX12_darkens ∈ TT := tt_7 (i := 141) rfl rfl
theorem tw_7_143 : Cond.instanceMethod yX12_darkens ∈ TT := tt_7 (i := 143) rfl rfl
theorem tw_p_64 : Cond.selects RX12 yX12_darkens yX12_darkens ∈ TT := tt_p (i := 64) (q := (yX12_darkens, 42)) rfl
theorem tw_7_101 : Cond.code yX12_isLane cX12_isLane 2 (some .boolean) ∈ TT := tt_7 (i := 101) rfl rfl
theorem tw_7_98 : Cond.methodLink RX12 285 yX12_isLane ∈ TT := tt_7 (i := 98) rfl rfl
theorem tw_7_100 : Cond.instanceMethod yX12_isLane ∈ TT := tt_7 (i := 100) rfl rfl
theorem tw_p_58 : Cond.selects RX12 yX12_isLane yX12_isLane ∈ TT := tt_p (i := 58) (q := (yX12_isLane, 42)) rfl
theorem tw_7_102 : Cond.constantLong RX12 288 (4) ∈ TT := tt_7 (i := 102) rfl rfl
theorem tw_7_117 : Cond.code yX12_isGate cX12_isGate 2 (some .boolean) ∈ TT := tt_7 (i := 117) rfl rfl
theorem tw_7_114 : Cond.methodLink RX12 290 yX12_isGate ∈ TT := tt_7 (i := 114) rfl rfl
theorem tw_7_116 : Cond.instanceMethod yX12_isGate ∈ TT := tt_7 (i := 116) rfl rfl
theorem tw_p_60 : Cond.selects RX12 yX12_isGate yX12_isGate ∈ TT := tt_p (i := 60) (q := (yX12_isGate, 42)) rfl
theorem tw_7_120 : Cond.code yX12_isHalf cX12_isHalf 1 (some .boolean) ∈ TT := tt_7 (i := 120) rfl rfl
theorem tw_7_118 : Cond.methodLink RX12 293 yX12_isHalf ∈ TT := tt_7 (i := 118) rfl rfl
theorem tw_7_119 : Cond.static yX12_isHalf ∈ TT := tt_7 (i := 119) rfl rfl
theorem tw_7_128 : Cond.code yX12_isHouse cX12_isHouse 2 (some .boolean) ∈ TT := tt_7 (i := 128) rfl rfl
theorem tw_7_125 : Cond.methodLink RX12 296 yX12_isHouse ∈ TT := tt_7 (i := 125) rfl rfl
theorem tw_7_127 : Cond.instanceMethod yX12_isHouse ∈ TT := tt_7 (i := 127) rfl rfl
theorem tw_p_61 : Cond.selects RX12 yX12_isHouse yX12_isHouse ∈ TT := tt_p (i := 61) (q := (yX12_isHouse, 42)) rfl
theorem tw_7_136 : Cond.code yX12_isStreet cX12_isStreet 3 (some .boolean) ∈ TT := tt_7 (i := 136) rfl rfl
theorem tw_7_133 : Cond.methodLink RX12 299 yX12_isStreet ∈ TT := tt_7 (i := 133) rfl rfl
theorem tw_7_135 : Cond.instanceMethod yX12_isStreet ∈ TT := tt_7 (i := 135) rfl rfl
theorem tw_p_62 : Cond.selects RX12 yX12_isStreet yX12_isStreet ∈ TT := tt_p (i := 62) (q := (yX12_isStreet, 42)) rfl
theorem tw_7_140 : Cond.code yX12_now cX12_now 1 none ∈ TT := tt_7 (i := 140) rfl rfl
theorem tw_7_137 : Cond.methodLink RX12 302 yX12_now ∈ TT := tt_7 (i := 137) rfl rfl
theorem tw_7_139 : Cond.instanceMethod yX12_now ∈ TT := tt_7 (i := 139) rfl rfl
theorem tw_p_63 : Cond.selects RX12 yX12_now yX12_now ∈ TT := tt_p (i := 63) (q := (yX12_now, 42)) rfl
theorem tw_7_164 : Cond.code yX12_comesTo cX12_comesTo 2 (some .int) ∈ TT := tt_7 (i := 164) rfl rfl
theorem tw_7_161 : Cond.methodLink RX12 305 yX12_comesTo ∈ TT := tt_7 (i := 161) rfl rfl
theorem tw_7_163 : Cond.instanceMethod yX12_comesTo ∈ TT := tt_7 (i := 163) rfl rfl
theorem tw_p_69 : Cond.selects RX12 yX12_comesTo yX12_comesTo ∈ TT := tt_p (i := 69) (q := (yX12_comesTo, 42)) rfl
theorem tw_7_176 : Cond.code yX12_laneOf cX12_laneOf 4 (some .int) ∈ TT := tt_7 (i := 176) rfl rfl
theorem tw_7_173 : Cond.methodLink RX12 308 yX12_laneOf ∈ TT := tt_7 (i := 173) rfl rfl
theorem tw_7_175 : Cond.instanceMethod yX12_laneOf ∈ TT := tt_7 (i := 175) rfl rfl
theorem tw_p_70 : Cond.selects RX12 yX12_laneOf yX12_laneOf ∈ TT := tt_p (i := 70) (q := (yX12_laneOf, 42)) rfl
theorem tw_7_184 : Cond.code yX12_isTown cX12_isTown 1 (some .boolean) ∈ TT := tt_7 (i := 184) rfl rfl
theorem tw_7_181 : Cond.methodLink RX12 311 yX12_isTown ∈ TT := tt_7 (i := 181) rfl rfl
theorem tw_7_183 : Cond.instanceMethod yX12_isTown ∈ TT := tt_7 (i := 183) rfl rfl
theorem tw_p_71 : Cond.selects RX12 yX12_isTown yX12_isTown ∈ TT := tt_p (i := 71) (q := (yX12_isTown, 42)) rfl
theorem tw_7_187 : Cond.code yX12_isMinute cX12_isMinute 1 (some .boolean) ∈ TT := tt_7 (i := 187) rfl rfl
theorem tw_7_185 : Cond.methodLink RX12 314 yX12_isMinute ∈ TT := tt_7 (i := 185) rfl rfl
theorem tw_7_186 : Cond.static yX12_isMinute ∈ TT := tt_7 (i := 186) rfl rfl
theorem tw_7_196 : Cond.code yX12_fullOf cX12_fullOf 3 (some .int) ∈ TT := tt_7 (i := 196) rfl rfl
theorem tw_7_193 : Cond.methodLink RX12 317 yX12_fullOf ∈ TT := tt_7 (i := 193) rfl rfl
theorem tw_7_195 : Cond.instanceMethod yX12_fullOf ∈ TT := tt_7 (i := 195) rfl rfl
theorem tw_p_72 : Cond.selects RX12 yX12_fullOf yX12_fullOf ∈ TT := tt_p (i := 72) (q := (yX12_fullOf, 42)) rfl
theorem tw_6_80 : Cond.fieldLink RX12 62 "DarkGateModel" "was" "[I" ∈ TT := tt_6 (i := 80) rfl rfl
theorem tw_7_216 : Cond.code yX12_keeps cX12_keeps 2 none ∈ TT := tt_7 (i := 216) rfl rfl
theorem tw_7_213 : Cond.methodLink RX12 320 yX12_keeps ∈ TT := tt_7 (i := 213) rfl rfl
theorem tw_7_215 : Cond.instanceMethod yX12_keeps ∈ TT := tt_7 (i := 215) rfl rfl
theorem tw_p_73 : Cond.selects RX12 yX12_keeps yX12_keeps ∈ TT := tt_p (i := 73) (q := (yX12_keeps, 42)) rfl
theorem tw_7_224 : Cond.code yX12_later cX12_later 3 (some .int) ∈ TT := tt_7 (i := 224) rfl rfl
theorem tw_7_221 : Cond.methodLink RX12 323 yX12_later ∈ TT := tt_7 (i := 221) rfl rfl
theorem tw_7_223 : Cond.instanceMethod yX12_later ∈ TT := tt_7 (i := 223) rfl rfl
theorem tw_p_74 : Cond.selects RX12 yX12_later yX12_later ∈ TT := tt_p (i := 74) (q := (yX12_later, 42)) rfl
theorem tw_6_81 : Cond.fieldLink RX12 65 "DarkGateModel" "owner" "[I" ∈ TT := tt_6 (i := 81) rfl rfl
theorem tw_6_82 : Cond.fieldLink RX12 68 "DarkGateModel" "strange" "[I" ∈ TT := tt_6 (i := 82) rfl rfl
theorem tw_7_232 : Cond.code yX12_laysOwners cX12_laysOwners 4 none ∈ TT := tt_7 (i := 232) rfl rfl
theorem tw_7_229 : Cond.methodLink RX12 326 yX12_laysOwners ∈ TT := tt_7 (i := 229) rfl rfl
theorem tw_7_231 : Cond.instanceMethod yX12_laysOwners ∈ TT := tt_7 (i := 231) rfl rfl
theorem tw_p_75 : Cond.selects RX12 yX12_laysOwners yX12_laysOwners ∈ TT := tt_p (i := 75) (q := (yX12_laysOwners, 42)) rfl
theorem tw_8_12 : Cond.code yX12_gladOf cX12_gladOf 4 (some .int) ∈ TT := tt_8 (i := 12) rfl rfl
theorem tw_8_9 : Cond.methodLink RX12 329 yX12_gladOf ∈ TT := tt_8 (i := 9) rfl rfl
theorem tw_8_11 : Cond.instanceMethod yX12_gladOf ∈ TT := tt_8 (i := 11) rfl rfl
theorem tw_p_76 : Cond.selects RX12 yX12_gladOf yX12_gladOf ∈ TT := tt_p (i := 76) (q := (yX12_gladOf, 42)) rfl
theorem tw_8_20 : Cond.code yX12_gladAll cX12_gladAll 3 (some .int) ∈ TT := tt_8 (i := 20) rfl rfl
theorem tw_8_17 : Cond.methodLink RX12 332 yX12_gladAll ∈ TT := tt_8 (i := 17) rfl rfl
theorem tw_8_19 : Cond.instanceMethod yX12_gladAll ∈ TT := tt_8 (i := 19) rfl rfl
theorem tw_p_77 : Cond.selects RX12 yX12_gladAll yX12_gladAll ∈ TT := tt_p (i := 77) (q := (yX12_gladAll, 42)) rfl
theorem tw_8_40 : Cond.code yX12_gladBy cX12_gladBy 2 (some .int) ∈ TT := tt_8 (i := 40) rfl rfl
theorem tw_8_37 : Cond.methodLink RX12 335 yX12_gladBy ∈ TT := tt_8 (i := 37) rfl rfl
theorem tw_8_39 : Cond.instanceMethod yX12_gladBy ∈ TT := tt_8 (i := 39) rfl rfl
theorem tw_p_80 : Cond.selects RX12 yX12_gladBy yX12_gladBy ∈ TT := tt_p (i := 80) (q := (yX12_gladBy, 42)) rfl
theorem tw_6_83 : Cond.fieldLink RX12 338 "DarkGateModel" "bestGlad" "I" ∈ TT := tt_6 (i := 83) rfl rfl
theorem tw_8_43 : Cond.code yX12_sizeOf cX12_sizeOf 3 (some .int) ∈ TT := tt_8 (i := 43) rfl rfl
theorem tw_8_41 : Cond.methodLink RX12 341 yX12_sizeOf ∈ TT := tt_8 (i := 41) rfl rfl
theorem tw_8_42 : Cond.static yX12_sizeOf ∈ TT := tt_8 (i := 42) rfl rfl
theorem tw_8_32 : Cond.code yX12_isChange cX12_isChange 2 (some .boolean) ∈ TT := tt_8 (i := 32) rfl rfl
theorem tw_8_29 : Cond.methodLink RX12 344 yX12_isChange ∈ TT := tt_8 (i := 29) rfl rfl
theorem tw_8_31 : Cond.instanceMethod yX12_isChange ∈ TT := tt_8 (i := 31) rfl rfl
theorem tw_p_78 : Cond.selects RX12 yX12_isChange yX12_isChange ∈ TT := tt_p (i := 78) (q := (yX12_isChange, 42)) rfl
theorem tw_8_36 : Cond.code yX12_changesOf cX12_changesOf 6 (some .int) ∈ TT := tt_8 (i := 36) rfl rfl
theorem tw_8_33 : Cond.methodLink RX12 347 yX12_changesOf ∈ TT := tt_8 (i := 33) rfl rfl
theorem tw_8_35 : Cond.instanceMethod yX12_changesOf ∈ TT := tt_8 (i := 35) rfl rfl
theorem tw_p_79 : Cond.selects RX12 yX12_changesOf yX12_changesOf ∈ TT := tt_p (i := 79) (q := (yX12_changesOf, 42)) rfl
theorem tw_8_56 : Cond.constantLong RX12 350 (1000) ∈ TT := tt_8 (i := 56) rfl rfl
theorem tw_8_60 : Cond.code yX12_cutsOf cX12_cutsOf 5 (some .int) ∈ TT := tt_8 (i := 60) rfl rfl
theorem tw_8_57 : Cond.methodLink RX12 352 yX12_cutsOf ∈ TT := tt_8 (i := 57) rfl rfl
theorem tw_8_59 : Cond.instanceMethod yX12_cutsOf ∈ TT := tt_8 (i := 59) rfl rfl
theorem tw_p_81 : Cond.selects RX12 yX12_cutsOf yX12_cutsOf ∈ TT := tt_p (i := 81) (q := (yX12_cutsOf, 42)) rfl
theorem tw_8_76 : Cond.code yX12_asksOf cX12_asksOf 5 (some .int) ∈ TT := tt_8 (i := 76) rfl rfl
theorem tw_8_73 : Cond.methodLink RX12 355 yX12_asksOf ∈ TT := tt_8 (i := 73) rfl rfl
theorem tw_8_75 : Cond.instanceMethod yX12_asksOf ∈ TT := tt_8 (i := 75) rfl rfl
theorem tw_p_82 : Cond.selects RX12 yX12_asksOf yX12_asksOf ∈ TT := tt_p (i := 82) (q := (yX12_asksOf, 42)) rfl
theorem tw_6_84 : Cond.fieldLink RX12 71 "DarkGateModel" "isFit" "[Z" ∈ TT := tt_6 (i := 84) rfl rfl
theorem tw_6_85 : Cond.fieldLink RX12 74 "DarkGateModel" "seen" "[I" ∈ TT := tt_6 (i := 85) rfl rfl
theorem tw_8_88 : Cond.code yX12_whyNot cX12_whyNot 3 (some .int) ∈ TT := tt_8 (i := 88) rfl rfl
theorem tw_8_85 : Cond.methodLink RX12 358 yX12_whyNot ∈ TT := tt_8 (i := 85) rfl rfl
theorem tw_8_87 : Cond.instanceMethod yX12_whyNot ∈ TT := tt_8 (i := 87) rfl rfl
theorem tw_p_83 : Cond.selects RX12 yX12_whyNot yX12_whyNot ∈ TT := tt_p (i := 83) (q := (yX12_whyNot, 42)) rfl
theorem tw_8_92 : Cond.code yX12_laysFits cX12_laysFits 8 (some .int) ∈ TT := tt_8 (i := 92) rfl rfl
theorem tw_8_89 : Cond.methodLink RX12 361 yX12_laysFits ∈ TT := tt_8 (i := 89) rfl rfl
theorem tw_8_91 : Cond.instanceMethod yX12_laysFits ∈ TT := tt_8 (i := 91) rfl rfl
theorem tw_p_84 : Cond.selects RX12 yX12_laysFits yX12_laysFits ∈ TT := tt_p (i := 84) (q := (yX12_laysFits, 42)) rfl
theorem tw_6_88 : Cond.fieldLink RX12 364 "DarkGateModel" "askLeaves" "I" ∈ TT := tt_6 (i := 88) rfl rfl
theorem tw_6_87 : Cond.fieldLink RX12 367 "DarkGateModel" "askBest" "I" ∈ TT := tt_6 (i := 87) rfl rfl
theorem tw_6_86 : Cond.fieldLink RX12 77 "DarkGateModel" "often" "[I" ∈ TT := tt_6 (i := 86) rfl rfl
theorem tw_8_108 : Cond.code yX12_laysAsk cX12_laysAsk 6 none ∈ TT := tt_8 (i := 108) rfl rfl
theorem tw_8_105 : Cond.methodLink RX12 370 yX12_laysAsk ∈ TT := tt_8 (i := 105) rfl rfl
theorem tw_8_107 : Cond.instanceMethod yX12_laysAsk ∈ TT := tt_8 (i := 107) rfl rfl
theorem tw_p_85 : Cond.selects RX12 yX12_laysAsk yX12_laysAsk ∈ TT := tt_p (i := 85) (q := (yX12_laysAsk, 42)) rfl
theorem tw_6_89 : Cond.fieldLink RX12 373 "DarkGateModel" "placeLeast" "I" ∈ TT := tt_6 (i := 89) rfl rfl
theorem tw_8_120 : Cond.code yX12_isPlace cX12_isPlace 2 (some .boolean) ∈ TT := tt_8 (i := 120) rfl rfl
theorem tw_8_117 : Cond.methodLink RX12 376 yX12_isPlace ∈ TT := tt_8 (i := 117) rfl rfl
theorem tw_8_119 : Cond.instanceMethod yX12_isPlace ∈ TT := tt_8 (i := 119) rfl rfl
theorem tw_p_86 : Cond.selects RX12 yX12_isPlace yX12_isPlace ∈ TT := tt_p (i := 86) (q := (yX12_isPlace, 42)) rfl
theorem tw_8_124 : Cond.code yX12_placesOf cX12_placesOf 8 (some .int) ∈ TT := tt_8 (i := 124) rfl rfl
theorem tw_8_121 : Cond.methodLink RX12 379 yX12_placesOf ∈ TT := tt_8 (i := 121) rfl rfl
theorem tw_8_123 : Cond.instanceMethod yX12_placesOf ∈ TT := tt_8 (i := 123) rfl rfl
theorem tw_p_87 : Cond.selects RX12 yX12_placesOf yX12_placesOf ∈ TT := tt_p (i := 87) (q := (yX12_placesOf, 42)) rfl
theorem tw_6_90 : Cond.fieldLink RX12 80 "DarkGateModel" "room" "[I" ∈ TT := tt_6 (i := 90) rfl rfl
theorem tw_6_91 : Cond.fieldLink RX12 83 "DarkGateModel" "cartOf" "[I" ∈ TT := tt_6 (i := 91) rfl rfl
theorem tw_8_149 : Cond.code yX12_packs cX12_packs 5 (some .boolean) ∈ TT := tt_8 (i := 149) rfl rfl
theorem tw_8_146 : Cond.methodLink RX12 383 yX12_packs ∈ TT := tt_8 (i := 146) rfl rfl
theorem tw_8_148 : Cond.instanceMethod yX12_packs ∈ TT := tt_8 (i := 148) rfl rfl
theorem tw_p_90 : Cond.selects RX12 yX12_packs yX12_packs ∈ TT := tt_p (i := 90) (q := (yX12_packs, 42)) rfl
theorem tw_8_141 : Cond.constantLong RX12 386 (99) ∈ TT := tt_8 (i := 141) rfl rfl
theorem tw_8_140 : Cond.code yX12_isCart cX12_isCart 2 (some .boolean) ∈ TT := tt_8 (i := 140) rfl rfl
theorem tw_8_137 : Cond.methodLink RX12 388 yX12_isCart ∈ TT := tt_8 (i := 137) rfl rfl
theorem tw_8_139 : Cond.instanceMethod yX12_isCart ∈ TT := tt_8 (i := 139) rfl rfl
theorem tw_p_88 : Cond.selects RX12 yX12_isCart yX12_isCart ∈ TT := tt_p (i := 88) (q := (yX12_isCart, 42)) rfl
theorem tw_8_145 : Cond.code yX12_cartsOf cX12_cartsOf 4 (some .int) ∈ TT := tt_8 (i := 145) rfl rfl
theorem tw_8_142 : Cond.methodLink RX12 391 yX12_cartsOf ∈ TT := tt_8 (i := 142) rfl rfl
theorem tw_8_144 : Cond.instanceMethod yX12_cartsOf ∈ TT := tt_8 (i := 144) rfl rfl
theorem tw_p_89 : Cond.selects RX12 yX12_cartsOf yX12_cartsOf ∈ TT := tt_p (i := 89) (q := (yX12_cartsOf, 42)) rfl
theorem tw_8_161 : Cond.code yX12_winner cX12_winner 3 (some .int) ∈ TT := tt_8 (i := 161) rfl rfl
theorem tw_8_158 : Cond.methodLink RX12 394 yX12_winner ∈ TT := tt_8 (i := 158) rfl rfl
theorem tw_8_160 : Cond.instanceMethod yX12_winner ∈ TT := tt_8 (i := 160) rfl rfl
theorem tw_p_91 : Cond.selects RX12 yX12_winner yX12_winner ∈ TT := tt_p (i := 91) (q := (yX12_winner, 42)) rfl
theorem tw_6_92 : Cond.fieldLink RX12 86 "DarkGateModel" "game" "[I" ∈ TT := tt_6 (i := 92) rfl rfl
theorem tw_8_173 : Cond.code yX12_laysGame cX12_laysGame 3 none ∈ TT := tt_8 (i := 173) rfl rfl
theorem tw_8_170 : Cond.methodLink RX12 397 yX12_laysGame ∈ TT := tt_8 (i := 170) rfl rfl
theorem tw_8_172 : Cond.instanceMethod yX12_laysGame ∈ TT := tt_8 (i := 172) rfl rfl
theorem tw_p_92 : Cond.selects RX12 yX12_laysGame yX12_laysGame ∈ TT := tt_p (i := 92) (q := (yX12_laysGame, 42)) rfl
theorem tw_8_181 : Cond.code yX12_townHas cX12_townHas 4 (some .int) ∈ TT := tt_8 (i := 181) rfl rfl
theorem tw_8_178 : Cond.methodLink RX12 400 yX12_townHas ∈ TT := tt_8 (i := 178) rfl rfl
theorem tw_8_180 : Cond.instanceMethod yX12_townHas ∈ TT := tt_8 (i := 180) rfl rfl
theorem tw_p_93 : Cond.selects RX12 yX12_townHas yX12_townHas ∈ TT := tt_p (i := 93) (q := (yX12_townHas, 42)) rfl
theorem tw_8_194 : Cond.code yX12_common cX12_common 4 (some .long) ∈ TT := tt_8 (i := 194) rfl rfl
theorem tw_8_192 : Cond.methodLink RX12 403 yX12_common ∈ TT := tt_8 (i := 192) rfl rfl
theorem tw_8_193 : Cond.static yX12_common ∈ TT := tt_8 (i := 193) rfl rfl
theorem tw_6_93 : Cond.fieldLink RX12 89 "DarkGateModel" "weight" "[J" ∈ TT := tt_6 (i := 93) rfl rfl
theorem tw_6_94 : Cond.fieldLink RX12 407 "DarkGateModel" "weightAll" "J" ∈ TT := tt_6 (i := 94) rfl rfl
theorem tw_8_191 : Cond.constantLong RX12 410 (10) ∈ TT := tt_8 (i := 191) rfl rfl
theorem tw_8_186 : Cond.constantLong RX12 412 (-2) ∈ TT := tt_8 (i := 186) rfl rfl
theorem tw_8_190 : Cond.code yX12_laysChance cX12_laysChance 7 none ∈ TT := tt_8 (i := 190) rfl rfl
theorem tw_8_187 : Cond.methodLink RX12 414 yX12_laysChance ∈ TT := tt_8 (i := 187) rfl rfl
theorem tw_8_189 : Cond.instanceMethod yX12_laysChance ∈ TT := tt_8 (i := 189) rfl rfl
theorem tw_p_94 : Cond.selects RX12 yX12_laysChance yX12_laysChance ∈ TT := tt_p (i := 94) (q := (yX12_laysChance, 42)) rfl
theorem tw_8_199 : Cond.constantLong RX12 417 (100) ∈ TT := tt_8 (i := 199) rfl rfl
theorem tw_8_207 : Cond.code yX12_isFull cX12_isFull 1 (some .boolean) ∈ TT := tt_8 (i := 207) rfl rfl
theorem tw_8_204 : Cond.methodLink RX12 419 yX12_isFull ∈ TT := tt_8 (i := 204) rfl rfl
theorem tw_8_206 : Cond.instanceMethod yX12_isFull ∈ TT := tt_8 (i := 206) rfl rfl
theorem tw_p_95 : Cond.selects RX12 yX12_isFull yX12_isFull ∈ TT := tt_p (i := 95) (q := (yX12_isFull, 42)) rfl
theorem tw_8_211 : Cond.code yX12_acts cX12_acts 5 none ∈ TT := tt_8 (i := 211) rfl rfl
theorem tw_8_208 : Cond.methodLink RX12 422 yX12_acts ∈ TT := tt_8 (i := 208) rfl rfl
theorem tw_8_210 : Cond.instanceMethod yX12_acts ∈ TT := tt_8 (i := 210) rfl rfl
theorem tw_p_96 : Cond.selects RX12 yX12_acts yX12_acts ∈ TT := tt_p (i := 96) (q := (yX12_acts, 42)) rfl
theorem tw_8_237 : Cond.constantLong RX12 426 (1103515245) ∈ TT := tt_8 (i := 237) rfl rfl
theorem tw_8_238 : Cond.constantLong RX12 428 (12345) ∈ TT := tt_8 (i := 238) rfl rfl
theorem tw_8_239 : Cond.constantLong RX12 430 (2147483648) ∈ TT := tt_8 (i := 239) rfl rfl
theorem tw_9_0 : Cond.constantLong RX12 432 (65536) ∈ TT := tt_9 (i := 0) rfl rfl
theorem tw_8_232 : Cond.constantLong RX12 434 (2000000000) ∈ TT := tt_8 (i := 232) rfl rfl
theorem tw_8_231 : Cond.code yX12_isSeed cX12_isSeed 2 (some .boolean) ∈ TT := tt_8 (i := 231) rfl rfl
theorem tw_8_228 : Cond.methodLink RX12 436 yX12_isSeed ∈ TT := tt_8 (i := 228) rfl rfl
theorem tw_8_230 : Cond.instanceMethod yX12_isSeed ∈ TT := tt_8 (i := 230) rfl rfl
theorem tw_p_97 : Cond.selects RX12 yX12_isSeed yX12_isSeed ∈ TT := tt_p (i := 97) (q := (yX12_isSeed, 42)) rfl
theorem tw_8_236 : Cond.code yX12_drawnMud cX12_drawnMud 7 (some .int) ∈ TT := tt_8 (i := 236) rfl rfl
theorem tw_8_233 : Cond.methodLink RX12 439 yX12_drawnMud ∈ TT := tt_8 (i := 233) rfl rfl
theorem tw_8_235 : Cond.instanceMethod yX12_drawnMud ∈ TT := tt_8 (i := 235) rfl rfl
theorem tw_p_98 : Cond.selects RX12 yX12_drawnMud yX12_drawnMud ∈ TT := tt_p (i := 98) (q := (yX12_drawnMud, 42)) rfl
theorem tw_9_5 : Cond.constantLong RX12 443 (20) ∈ TT := tt_9 (i := 5) rfl rfl
theorem tw_9_10 : Cond.constantLong RX12 445 (2) ∈ TT := tt_9 (i := 10) rfl rfl
theorem tw_9_15 : Cond.constantLong RX12 447 (5) ∈ TT := tt_9 (i := 15) rfl rfl
theorem tw_6_76 : Cond.fieldLink RX12 52 "DarkGateModel" "isKept" "[Z" ∈ TT := tt_6 (i := 76) rfl rfl
theorem tw_1_48 : Cond.fieldLink RX0 9 "DarkGate$Acts" "done" "I" ∈ TT := tt_1 (i := 48) rfl rfl
theorem tw_1_57 : Cond.lays RX0 "DarkGate$Acts" "done" "I" ∈ TT := tt_1 (i := 57) rfl rfl
theorem tw_1_59 : Cond.laysFinal RX0 "DarkGate$Acts" "kind" "[I" ∈ TT := tt_1 (i := 59) rfl rfl
theorem tw_1_61 : Cond.laysFinal RX0 "DarkGate$Acts" "which" "[I" ∈ TT := tt_1 (i := 61) rfl rfl
theorem tw_1_63 : Cond.laysFinal RX0 "DarkGate$Acts" "was" "[I" ∈ TT := tt_1 (i := 63) rfl rfl
theorem tw_1_51 : Cond.fieldLink RX0 15 "DarkGate$Acts" "kind" "[I" ∈ TT := tt_1 (i := 51) rfl rfl
theorem tw_1_53 : Cond.fieldLink RX0 19 "DarkGate$Acts" "which" "[I" ∈ TT := tt_1 (i := 53) rfl rfl
theorem tw_1_55 : Cond.fieldLink RX0 22 "DarkGate$Acts" "was" "[I" ∈ TT := tt_1 (i := 55) rfl rfl
theorem tw_6_7 : Cond.methodLink RX0 25 arraycopyName ∈ TT := tt_6 (i := 7) rfl rfl
theorem tw_4_178 : Cond.native arraycopyName ∈ TT := tt_4 (i := 178) rfl rfl
theorem tw_4_177 : Cond.static arraycopyName ∈ TT := tt_4 (i := 177) rfl rfl
theorem tw_1_21 : Cond.initialized "java/lang/System" ∈ TT := tt_1 (i := 21) rfl rfl
theorem tw_1_77 : Cond.fieldLink RX10 18 "DarkGate$Town" "lanes" "I" ∈ TT := tt_1 (i := 77) rfl rfl
theorem tw_1_154 : Cond.lays RX10 "DarkGate$Town" "streets" "I" ∈ TT := tt_1 (i := 154) rfl rfl
theorem tw_1_156 : Cond.lays RX10 "DarkGate$Town" "lines" "I" ∈ TT := tt_1 (i := 156) rfl rfl
theorem tw_1_158 : Cond.lays RX10 "DarkGate$Town" "lanes" "I" ∈ TT := tt_1 (i := 158) rfl rfl
theorem tw_1_160 : Cond.laysFinal RX10 "DarkGate$Town" "laneFrom" "[I" ∈ TT := tt_1 (i := 160) rfl rfl
theorem tw_1_162 : Cond.laysFinal RX10 "DarkGate$Town" "laneTo" "[I" ∈ TT := tt_1 (i := 162) rfl rfl
theorem tw_1_164 : Cond.laysFinal RX10 "DarkGate$Town" "takes" "[I" ∈ TT := tt_1 (i := 164) rfl rfl
theorem tw_1_166 : Cond.laysFinal RX10 "DarkGate$Town" "muddy" "[I" ∈ TT := tt_1 (i := 166) rfl rfl
theorem tw_1_168 : Cond.lays RX10 "DarkGate$Town" "barred" "I" ∈ TT := tt_1 (i := 168) rfl rfl
theorem tw_1_170 : Cond.lays RX10 "DarkGate$Town" "gates" "I" ∈ TT := tt_1 (i := 170) rfl rfl
theorem tw_1_172 : Cond.laysFinal RX10 "DarkGate$Town" "gateAt" "[I" ∈ TT := tt_1 (i := 172) rfl rfl
theorem tw_1_174 : Cond.laysFinal RX10 "DarkGate$Town" "gateHolds" "[I" ∈ TT := tt_1 (i := 174) rfl rfl
theorem tw_1_176 : Cond.lays RX10 "DarkGate$Town" "houses" "I" ∈ TT := tt_1 (i := 176) rfl rfl
theorem tw_1_178 : Cond.laysFinal RX10 "DarkGate$Town" "houseAt" "[I" ∈ TT := tt_1 (i := 178) rfl rfl
theorem tw_1_180 : Cond.laysFinal RX10 "DarkGate$Town" "wants" "[I" ∈ TT := tt_1 (i := 180) rfl rfl
theorem tw_1_182 : Cond.laysFinal RX10 "DarkGate$Town" "pays" "[I" ∈ TT := tt_1 (i := 182) rfl rfl
theorem tw_1_184 : Cond.laysFinal RX10 "DarkGate$Town" "loads" "[I" ∈ TT := tt_1 (i := 184) rfl rfl
theorem tw_1_186 : Cond.lays RX10 "DarkGate$Town" "strangers" "I" ∈ TT := tt_1 (i := 186) rfl rfl
theorem tw_1_188 : Cond.laysFinal RX10 "DarkGate$Town" "strangerAt" "[I" ∈ TT := tt_1 (i := 188) rfl rfl
theorem tw_1_190 : Cond.laysFinal RX10 "DarkGate$Town" "strangerFrom" "[I" ∈ TT := tt_1 (i := 190) rfl rfl
theorem tw_1_192 : Cond.laysFinal RX10 "DarkGate$Town" "acts" "LDarkGate$Acts;" ∈ TT := tt_1 (i := 192) rfl rfl
theorem tw_1_101 : Cond.fieldLink RX10 34 "DarkGate$Town" "barred" "I" ∈ TT := tt_1 (i := 101) rfl rfl
theorem tw_2_17 : Cond.fieldLink RX1 9 "DarkGate$Dark" "at" "[I" ∈ TT := tt_2 (i := 17) rfl rfl
theorem tw_2_26 : Cond.laysFinal RX1 "DarkGate$Dark" "at" "[I" ∈ TT := tt_2 (i := 26) rfl rfl
theorem tw_2_28 : Cond.lays RX1 "DarkGate$Dark" "open" "I" ∈ TT := tt_2 (i := 28) rfl rfl
theorem tw_2_30 : Cond.lays RX1 "DarkGate$Dark" "wet" "I" ∈ TT := tt_2 (i := 30) rfl rfl
theorem tw_1_96 : Cond.fieldLink RX1 75 "DarkGate$Town" "takes" "[I" ∈ TT := tt_1 (i := 96) rfl rfl
theorem tw_2_25 : Cond.fieldLink RX1 19 "DarkGate$Dark" "wet" "I" ∈ TT := tt_2 (i := 25) rfl rfl
theorem tw_2_24 : Cond.fieldLink RX1 15 "DarkGate$Dark" "open" "I" ∈ TT := tt_2 (i := 24) rfl rfl
theorem tw_1_70 : Cond.fieldLink RX1 59 "DarkGate$Town" "streets" "I" ∈ TT := tt_1 (i := 70) rfl rfl
theorem tw_1_81 : Cond.fieldLink RX1 62 "DarkGate$Town" "lanes" "I" ∈ TT := tt_1 (i := 81) rfl rfl
theorem tw_1_87 : Cond.fieldLink RX1 65 "DarkGate$Town" "laneFrom" "[I" ∈ TT := tt_1 (i := 87) rfl rfl
theorem tw_1_91 : Cond.fieldLink RX1 68 "DarkGate$Town" "laneTo" "[I" ∈ TT := tt_1 (i := 91) rfl rfl
theorem tw_3_206 : Cond.code yX1_minutesOf cX1_minutesOf 3 (some .int) ∈ TT := tt_3 (i := 206) rfl rfl
theorem tw_3_203 : Cond.methodLink RX1 71 yX1_minutesOf ∈ TT := tt_3 (i := 203) rfl rfl
theorem tw_3_205 : Cond.instanceMethod yX1_minutesOf ∈ TT := tt_3 (i := 205) rfl rfl
theorem tw_p_21 : Cond.selects RX1 yX1_minutesOf yX1_minutesOf ∈ TT := tt_p (i := 21) (q := (yX1_minutesOf, 3)) rfl
theorem tw_1_6 : Cond.initialized RX1 ∈ TT := tt_1 (i := 6) rfl rfl
theorem tw_3_191 : Cond.constant RX1 36 (1000000) ∈ TT := tt_3 (i := 191) rfl rfl
theorem tw_3_194 : Cond.code yJ7_fill_53178 cJ7_fill_53178 4 none ∈ TT := tt_3 (i := 194) rfl rfl
theorem tw_3_192 : Cond.methodLink RX1 37 yJ7_fill_53178 ∈ TT := tt_3 (i := 192) rfl rfl
theorem tw_3_193 : Cond.static yJ7_fill_53178 ∈ TT := tt_3 (i := 193) rfl rfl
theorem tw_1_19 : Cond.initialized RJ7 ∈ TT := tt_1 (i := 19) rfl rfl
theorem tw_1_104 : Cond.fieldLink RX1 43 "DarkGate$Town" "gates" "I" ∈ TT := tt_1 (i := 104) rfl rfl
theorem tw_3_202 : Cond.code yX1_flow cX1_flow 10 none ∈ TT := tt_3 (i := 202) rfl rfl
theorem tw_3_199 : Cond.methodLink RX1 56 yX1_flow ∈ TT := tt_3 (i := 199) rfl rfl
theorem tw_3_201 : Cond.instanceMethod yX1_flow ∈ TT := tt_3 (i := 201) rfl rfl
theorem tw_p_20 : Cond.selects RX1 yX1_flow yX1_flow ∈ TT := tt_p (i := 20) (q := (yX1_flow, 3)) rfl
theorem tw_1_111 : Cond.fieldLink RX1 46 "DarkGate$Town" "gateAt" "[I" ∈ TT := tt_1 (i := 111) rfl rfl
theorem tw_1_115 : Cond.fieldLink RX1 49 "DarkGate$Town" "gateHolds" "[I" ∈ TT := tt_1 (i := 115) rfl rfl
theorem tw_3_198 : Cond.code yX1_enter cX1_enter 3 none ∈ TT := tt_3 (i := 198) rfl rfl
theorem tw_3_195 : Cond.methodLink RX1 52 yX1_enter ∈ TT := tt_3 (i := 195) rfl rfl
theorem tw_3_197 : Cond.instanceMethod yX1_enter ∈ TT := tt_3 (i := 197) rfl rfl
theorem tw_p_19 : Cond.selects RX1 yX1_enter yX1_enter ∈ TT := tt_p (i := 19) (q := (yX1_enter, 3)) rfl
theorem tw_3_190 : Cond.code yX1_fallHeld cX1_fallHeld 7 none ∈ TT := tt_3 (i := 190) rfl rfl
theorem tw_3_187 : Cond.methodLink RX1 32 yX1_fallHeld ∈ TT := tt_3 (i := 187) rfl rfl
theorem tw_3_188 : Cond.instanceMethod yX1_fallHeld ∈ TT := tt_3 (i := 188) rfl rfl
theorem tw_3_189 : Cond.selects RX1 yX1_fallHeld yX1_fallHeld ∈ TT := tt_3 (i := 189) rfl rfl
theorem tw_3_182 : Cond.code yX10_openLanes cX10_openLanes 1 (some .int) ∈ TT := tt_3 (i := 182) rfl rfl
theorem tw_3_179 : Cond.methodLink RX1 22 yX10_openLanes ∈ TT := tt_3 (i := 179) rfl rfl
theorem tw_3_180 : Cond.instanceMethod yX10_openLanes ∈ TT := tt_3 (i := 180) rfl rfl
theorem tw_3_181 : Cond.selects RX10 yX10_openLanes yX10_openLanes ∈ TT := tt_3 (i := 181) rfl rfl
theorem tw_1_3 : Cond.initialized RX10 ∈ TT := tt_1 (i := 3) rfl rfl
theorem tw_3_186 : Cond.code yX1_fall cX1_fall 4 none ∈ TT := tt_3 (i := 186) rfl rfl
theorem tw_3_183 : Cond.methodLink RX1 28 yX1_fall ∈ TT := tt_3 (i := 183) rfl rfl
theorem tw_3_184 : Cond.instanceMethod yX1_fall ∈ TT := tt_3 (i := 184) rfl rfl
theorem tw_3_185 : Cond.selects RX1 yX1_fall yX1_fall ∈ TT := tt_3 (i := 185) rfl rfl
theorem tw_4_12 : Cond.code yJ9_max_7cf53 cJ9_max_7cf53 2 (some .int) ∈ TT := tt_4 (i := 12) rfl rfl
theorem tw_4_10 : Cond.methodLink RX1 78 yJ9_max_7cf53 ∈ TT := tt_4 (i := 10) rfl rfl
theorem tw_4_11 : Cond.static yJ9_max_7cf53 ∈ TT := tt_4 (i := 11) rfl rfl
theorem tw_1_14 : Cond.initialized RJ9 ∈ TT := tt_1 (i := 14) rfl rfl
theorem tw_3_230 : Cond.code yX1_acrossLane cX1_acrossLane 4 (some .int) ∈ TT := tt_3 (i := 230) rfl rfl
theorem tw_3_227 : Cond.methodLink RX1 84 yX1_acrossLane ∈ TT := tt_3 (i := 227) rfl rfl
theorem tw_3_229 : Cond.instanceMethod yX1_acrossLane ∈ TT := tt_3 (i := 229) rfl rfl
theorem tw_p_22 : Cond.selects RX1 yX1_acrossLane yX1_acrossLane ∈ TT := tt_p (i := 22) (q := (yX1_acrossLane, 3)) rfl
theorem tw_3_226 : Cond.code yX1_laneInto cX1_laneInto 5 (some .int) ∈ TT := tt_3 (i := 226) rfl rfl
theorem tw_4_99 : Cond.methodLink RX1 88 yX1_laneInto ∈ TT := tt_4 (i := 99) rfl rfl
theorem tw_3_224 : Cond.instanceMethod yX1_laneInto ∈ TT := tt_3 (i := 224) rfl rfl
theorem tw_3_225 : Cond.selects RX1 yX1_laneInto yX1_laneInto ∈ TT := tt_3 (i := 225) rfl rfl
theorem tw_1_137 : Cond.fieldLink RX1 97 "DarkGate$Town" "pays" "[I" ∈ TT := tt_1 (i := 137) rfl rfl
theorem tw_1_133 : Cond.fieldLink RX1 100 "DarkGate$Town" "wants" "[I" ∈ TT := tt_1 (i := 133) rfl rfl
theorem tw_4_81 : Cond.code yJ9_abs_0f7a4 cJ9_abs_0f7a4 1 (some .int) ∈ TT := tt_4 (i := 81) rfl rfl
theorem tw_4_79 : Cond.methodLink RX1 103 yJ9_abs_0f7a4 ∈ TT := tt_4 (i := 79) rfl rfl
theorem tw_4_80 : Cond.static yJ9_abs_0f7a4 ∈ TT := tt_4 (i := 80) rfl rfl
theorem tw_1_129 : Cond.fieldLink RX1 91 "DarkGate$Town" "houseAt" "[I" ∈ TT := tt_1 (i := 129) rfl rfl
theorem tw_4_78 : Cond.code yX1_gladAt cX1_gladAt 3 (some .int) ∈ TT := tt_4 (i := 78) rfl rfl
theorem tw_4_76 : Cond.methodLink RX1 94 yX1_gladAt ∈ TT := tt_4 (i := 76) rfl rfl
theorem tw_4_77 : Cond.static yX1_gladAt ∈ TT := tt_4 (i := 77) rfl rfl
theorem tw_1_123 : Cond.fieldLink RX1 107 "DarkGate$Town" "houses" "I" ∈ TT := tt_1 (i := 123) rfl rfl
theorem tw_4_75 : Cond.code yX1_gladOf cX1_gladOf 3 (some .int) ∈ TT := tt_4 (i := 75) rfl rfl
theorem tw_4_90 : Cond.methodLink RX1 110 yX1_gladOf ∈ TT := tt_4 (i := 90) rfl rfl
theorem tw_4_73 : Cond.instanceMethod yX1_gladOf ∈ TT := tt_4 (i := 73) rfl rfl
theorem tw_4_74 : Cond.selects RX1 yX1_gladOf yX1_gladOf ∈ TT := tt_4 (i := 74) rfl rfl
theorem tw_2_98 : Cond.fieldLink RX2 18 "DarkGate$Holders" "dark" "LDarkGate$Dark;" ∈ TT := tt_2 (i := 98) rfl rfl
theorem tw_2_103 : Cond.lays RX2 "DarkGate$Holders" "fitting" "I" ∈ TT := tt_2 (i := 103) rfl rfl
theorem tw_2_105 : Cond.laysFinal RX2 "DarkGate$Holders" "dark" "LDarkGate$Dark;" ∈ TT := tt_2 (i := 105) rfl rfl
theorem tw_2_107 : Cond.laysFinal RX2 "DarkGate$Holders" "byOthers" "[I" ∈ TT := tt_2 (i := 107) rfl rfl
theorem tw_2_109 : Cond.laysFinal RX2 "DarkGate$Holders" "onItsWay" "[I" ∈ TT := tt_2 (i := 109) rfl rfl
theorem tw_2_111 : Cond.laysFinal RX2 "DarkGate$Holders" "may" "[Z" ∈ TT := tt_2 (i := 111) rfl rfl
theorem tw_2_113 : Cond.laysFinal RX2 "DarkGate$Holders" "tally" "[I" ∈ TT := tt_2 (i := 113) rfl rfl
theorem tw_4_173 : Cond.constant RX2 36 (1000000) ∈ TT := tt_4 (i := 173) rfl rfl
theorem tw_4_174 : Cond.methodLink RX2 37 yX10_openLanes ∈ TT := tt_4 (i := 174) rfl rfl
theorem tw_4_175 : Cond.methodLink RX2 43 yX1_fallHeld ∈ TT := tt_4 (i := 175) rfl rfl
theorem tw_2_18 : Cond.fieldLink RX2 47 "DarkGate$Dark" "at" "[I" ∈ TT := tt_2 (i := 18) rfl rfl
theorem tw_2_99 : Cond.fieldLink RX2 22 "DarkGate$Holders" "byOthers" "[I" ∈ TT := tt_2 (i := 99) rfl rfl
theorem tw_4_176 : Cond.methodLink RX2 50 arraycopyName ∈ TT := tt_4 (i := 176) rfl rfl
theorem tw_1_110 : Cond.fieldLink RX2 56 "DarkGate$Town" "gateAt" "[I" ∈ TT := tt_1 (i := 110) rfl rfl
theorem tw_3_218 : Cond.code yX1_fallFrom cX1_fallFrom 4 none ∈ TT := tt_3 (i := 218) rfl rfl
theorem tw_4_179 : Cond.methodLink RX2 59 yX1_fallFrom ∈ TT := tt_4 (i := 179) rfl rfl
theorem tw_3_216 : Cond.instanceMethod yX1_fallFrom ∈ TT := tt_3 (i := 216) rfl rfl
theorem tw_3_217 : Cond.selects RX1 yX1_fallFrom yX1_fallFrom ∈ TT := tt_3 (i := 217) rfl rfl
theorem tw_2_100 : Cond.fieldLink RX2 26 "DarkGate$Holders" "onItsWay" "[I" ∈ TT := tt_2 (i := 100) rfl rfl
theorem tw_3_18 : Cond.code yJ9_min_7cf53 cJ9_min_7cf53 2 (some .int) ∈ TT := tt_3 (i := 18) rfl rfl
theorem tw_4_184 : Cond.methodLink RX2 63 yJ9_min_7cf53 ∈ TT := tt_4 (i := 184) rfl rfl
theorem tw_3_17 : Cond.static yJ9_min_7cf53 ∈ TT := tt_3 (i := 17) rfl rfl
theorem tw_1_121 : Cond.fieldLink RX2 69 "DarkGate$Town" "houses" "I" ∈ TT := tt_1 (i := 121) rfl rfl
theorem tw_1_126 : Cond.fieldLink RX2 72 "DarkGate$Town" "houseAt" "[I" ∈ TT := tt_1 (i := 126) rfl rfl
theorem tw_4_183 : Cond.code yX2_minuteWith cX2_minuteWith 5 (some .int) ∈ TT := tt_4 (i := 183) rfl rfl
theorem tw_4_198 : Cond.methodLink RX2 75 yX2_minuteWith ∈ TT := tt_4 (i := 198) rfl rfl
theorem tw_4_181 : Cond.instanceMethod yX2_minuteWith ∈ TT := tt_4 (i := 181) rfl rfl
theorem tw_4_182 : Cond.selects RX2 yX2_minuteWith yX2_minuteWith ∈ TT := tt_4 (i := 182) rfl rfl
theorem tw_1_9 : Cond.initialized RX2 ∈ TT := tt_1 (i := 9) rfl rfl
theorem tw_4_199 : Cond.methodLink RX2 79 yX1_gladAt ∈ TT := tt_4 (i := 199) rfl rfl
theorem tw_4_172 : Cond.code yX2_learnGate cX2_learnGate 3 none ∈ TT := tt_4 (i := 172) rfl rfl
theorem tw_4_193 : Cond.methodLink RX2 83 yX2_learnGate ∈ TT := tt_4 (i := 193) rfl rfl
theorem tw_4_170 : Cond.instanceMethod yX2_learnGate ∈ TT := tt_4 (i := 170) rfl rfl
theorem tw_4_171 : Cond.selects RX2 yX2_learnGate yX2_learnGate ∈ TT := tt_4 (i := 171) rfl rfl
theorem tw_4_197 : Cond.code yX2_gladWith cX2_gladWith 6 (some .int) ∈ TT := tt_4 (i := 197) rfl rfl
theorem tw_4_194 : Cond.methodLink RX2 87 yX2_gladWith ∈ TT := tt_4 (i := 194) rfl rfl
theorem tw_4_195 : Cond.instanceMethod yX2_gladWith ∈ TT := tt_4 (i := 195) rfl rfl
theorem tw_4_196 : Cond.selects RX2 yX2_gladWith yX2_gladWith ∈ TT := tt_4 (i := 196) rfl rfl
theorem tw_4_215 : Cond.code yX8_isSlot cX8_isSlot 1 (some .boolean) ∈ TT := tt_4 (i := 215) rfl rfl
theorem tw_4_228 : Cond.methodLink RX8 32 yX8_isSlot ∈ TT := tt_4 (i := 228) rfl rfl
theorem tw_4_214 : Cond.static yX8_isSlot ∈ TT := tt_4 (i := 214) rfl rfl
theorem tw_1_5 : Cond.initialized RX8 ∈ TT := tt_1 (i := 5) rfl rfl
theorem tw_1_238 : Cond.fieldLink RX8 15 "DarkGate$Rows" "lengths" "[I" ∈ TT := tt_1 (i := 238) rfl rfl
theorem tw_2_1 : Cond.laysFinal RX8 "DarkGate$Rows" "numbers" "[J" ∈ TT := tt_2 (i := 1) rfl rfl
theorem tw_2_3 : Cond.laysFinal RX8 "DarkGate$Rows" "lengths" "[I" ∈ TT := tt_2 (i := 3) rfl rfl
theorem tw_2_5 : Cond.laysFinal RX8 "DarkGate$Rows" "widths" "[I" ∈ TT := tt_2 (i := 5) rfl rfl
theorem tw_2_7 : Cond.lays RX8 "DarkGate$Rows" "made" "I" ∈ TT := tt_2 (i := 7) rfl rfl
theorem tw_4_227 : Cond.code yX8_length cX8_length 2 (some .int) ∈ TT := tt_4 (i := 227) rfl rfl
theorem tw_4_224 : Cond.methodLink RX8 36 yX8_length ∈ TT := tt_4 (i := 224) rfl rfl
theorem tw_4_225 : Cond.instanceMethod yX8_length ∈ TT := tt_4 (i := 225) rfl rfl
theorem tw_4_226 : Cond.selects RX8 yX8_length yX8_length ∈ TT := tt_4 (i := 226) rfl rfl
theorem tw_1_237 : Cond.fieldLink RX8 11 "DarkGate$Rows" "numbers" "[J" ∈ TT := tt_1 (i := 237) rfl rfl
theorem tw_3_210 : Cond.constant RX11 174 (1000000) ∈ TT := tt_3 (i := 210) rfl rfl
theorem tw_5_3 : Cond.methodLink RX2 97 yX8_length ∈ TT := tt_5 (i := 3) rfl rfl
theorem tw_4_232 : Cond.code yX8_number cX8_number 3 (some .long) ∈ TT := tt_4 (i := 232) rfl rfl
theorem tw_5_4 : Cond.methodLink RX2 103 yX8_number ∈ TT := tt_5 (i := 4) rfl rfl
theorem tw_4_230 : Cond.instanceMethod yX8_number ∈ TT := tt_4 (i := 230) rfl rfl
theorem tw_4_231 : Cond.selects RX8 yX8_number yX8_number ∈ TT := tt_4 (i := 231) rfl rfl
theorem tw_3_209 : Cond.code yX11_minuteOrNone cX11_minuteOrNone 1 (some .int) ∈ TT := tt_3 (i := 209) rfl rfl
theorem tw_1_1 : Cond.initialized RX11 ∈ TT := tt_1 (i := 1) rfl rfl
theorem tw_3_208 : Cond.static yX11_minuteOrNone ∈ TT := tt_3 (i := 208) rfl rfl
theorem tw_2_96 : Cond.fieldLink RX2 9 "DarkGate$Holders" "fitting" "I" ∈ TT := tt_2 (i := 96) rfl rfl
theorem tw_2_101 : Cond.fieldLink RX2 29 "DarkGate$Holders" "may" "[Z" ∈ TT := tt_2 (i := 101) rfl rfl
theorem tw_1_105 : Cond.fieldLink RX2 90 "DarkGate$Town" "gates" "I" ∈ TT := tt_1 (i := 105) rfl rfl
theorem tw_5_2 : Cond.code yX2_matches cX2_matches 7 (some .boolean) ∈ TT := tt_5 (i := 2) rfl rfl
theorem tw_4_239 : Cond.methodLink RX2 93 yX2_matches ∈ TT := tt_4 (i := 239) rfl rfl
theorem tw_5_1 : Cond.instanceMethod yX2_matches ∈ TT := tt_5 (i := 1) rfl rfl
theorem tw_p_29 : Cond.selects RX2 yX2_matches yX2_matches ∈ TT := tt_p (i := 29) (q := (yX2_matches, 6)) rfl
theorem tw_2_102 : Cond.fieldLink RX2 33 "DarkGate$Holders" "tally" "[I" ∈ TT := tt_2 (i := 102) rfl rfl
theorem tw_5_30 : Cond.methodLink RX2 117 yJ7_fill_53178 ∈ TT := tt_5 (i := 30) rfl rfl
theorem tw_5_31 : Cond.methodLink RX2 123 yJ9_max_7cf53 ∈ TT := tt_5 (i := 31) rfl rfl
theorem tw_1_72 : Cond.fieldLink RX2 110 "DarkGate$Town" "streets" "I" ∈ TT := tt_1 (i := 72) rfl rfl
theorem tw_5_29 : Cond.code yX2_leftAtWorst cX2_leftAtWorst 6 (some .int) ∈ TT := tt_5 (i := 29) rfl rfl
theorem tw_5_26 : Cond.methodLink RX2 113 yX2_leftAtWorst ∈ TT := tt_5 (i := 26) rfl rfl
theorem tw_5_27 : Cond.instanceMethod yX2_leftAtWorst ∈ TT := tt_5 (i := 27) rfl rfl
theorem tw_5_28 : Cond.selects RX2 yX2_leftAtWorst yX2_leftAtWorst ∈ TT := tt_5 (i := 28) rfl rfl
theorem tw_1_78 : Cond.fieldLink RX3 22 "DarkGate$Town" "lanes" "I" ∈ TT := tt_1 (i := 78) rfl rfl
theorem tw_5_213 : Cond.constantLong RX3 28 (1103515245) ∈ TT := tt_5 (i := 213) rfl rfl
theorem tw_5_214 : Cond.constantLong RX3 30 (12345) ∈ TT := tt_5 (i := 214) rfl rfl
theorem tw_5_215 : Cond.constantLong RX3 32 (2147483648) ∈ TT := tt_5 (i := 215) rfl rfl
theorem tw_5_216 : Cond.constantLong RX3 34 (65536) ∈ TT := tt_5 (i := 216) rfl rfl
theorem tw_5_159 : Cond.constantLong RX3 36 (10) ∈ TT := tt_5 (i := 159) rfl rfl
theorem tw_1_98 : Cond.fieldLink RX3 38 "DarkGate$Town" "muddy" "[I" ∈ TT := tt_1 (i := 98) rfl rfl
theorem tw_4_103 : Cond.constant RJ6 265 (1431655765) ∈ TT := tt_4 (i := 103) rfl rfl
theorem tw_4_104 : Cond.constant RJ6 266 (858993459) ∈ TT := tt_4 (i := 104) rfl rfl
theorem tw_4_105 : Cond.constant RJ6 267 (252645135) ∈ TT := tt_4 (i := 105) rfl rfl
theorem tw_2_163 : Cond.fieldLink RX3 12 "DarkGate$Mud" "dark" "LDarkGate$Dark;" ∈ TT := tt_2 (i := 163) rfl rfl
theorem tw_2_165 : Cond.laysFinal RX3 "DarkGate$Mud" "dark" "LDarkGate$Dark;" ∈ TT := tt_2 (i := 165) rfl rfl
theorem tw_2_167 : Cond.laysFinal RX3 "DarkGate$Mud" "parts" "[J" ∈ TT := tt_2 (i := 167) rfl rfl
theorem tw_5_155 : Cond.methodLink RX3 54 yX10_openLanes ∈ TT := tt_5 (i := 155) rfl rfl
theorem tw_5_156 : Cond.methodLink RX3 58 yX1_fall ∈ TT := tt_5 (i := 156) rfl rfl
theorem tw_2_21 : Cond.fieldLink RX3 62 "DarkGate$Dark" "at" "[I" ∈ TT := tt_2 (i := 21) rfl rfl
theorem tw_4_98 : Cond.code yX1_wayTo cX1_wayTo 7 (some .int) ∈ TT := tt_4 (i := 98) rfl rfl
theorem tw_5_157 : Cond.methodLink RX3 65 yX1_wayTo ∈ TT := tt_5 (i := 157) rfl rfl
theorem tw_4_96 : Cond.instanceMethod yX1_wayTo ∈ TT := tt_4 (i := 96) rfl rfl
theorem tw_4_97 : Cond.selects RX1 yX1_wayTo yX1_wayTo ∈ TT := tt_4 (i := 97) rfl rfl
theorem tw_4_102 : Cond.code yJ6_bitCount_0f7a4 cJ6_bitCount_0f7a4 1 (some .int) ∈ TT := tt_4 (i := 102) rfl rfl
theorem tw_5_158 : Cond.methodLink RX3 69 yJ6_bitCount_0f7a4 ∈ TT := tt_5 (i := 158) rfl rfl
theorem tw_4_101 : Cond.static yJ6_bitCount_0f7a4 ∈ TT := tt_4 (i := 101) rfl rfl
theorem tw_1_20 : Cond.initialized RJ6 ∈ TT := tt_1 (i := 20) rfl rfl
theorem tw_2_164 : Cond.fieldLink RX3 18 "DarkGate$Mud" "parts" "[J" ∈ TT := tt_2 (i := 164) rfl rfl
theorem tw_5_154 : Cond.code yX3_weighLanes cX3_weighLanes 14 none ∈ TT := tt_5 (i := 154) rfl rfl
theorem tw_5_151 : Cond.methodLink RX3 50 yX3_weighLanes ∈ TT := tt_5 (i := 151) rfl rfl
theorem tw_5_153 : Cond.instanceMethod yX3_weighLanes ∈ TT := tt_5 (i := 153) rfl rfl
theorem tw_p_34 : Cond.selects RX3 yX3_weighLanes yX3_weighLanes ∈ TT := tt_p (i := 34) (q := (yX3_weighLanes, 2)) rfl
theorem tw_1_12 : Cond.initialized RX3 ∈ TT := tt_1 (i := 12) rfl rfl
theorem tw_5_149 : Cond.code yJ7_fill_d0a16 cJ7_fill_d0a16 5 none ∈ TT := tt_5 (i := 149) rfl rfl
theorem tw_5_147 : Cond.methodLink RX3 42 yJ7_fill_d0a16 ∈ TT := tt_5 (i := 147) rfl rfl
theorem tw_5_148 : Cond.static yJ7_fill_d0a16 ∈ TT := tt_5 (i := 148) rfl rfl
theorem tw_5_150 : Cond.constantLong RX3 48 (10000000000) ∈ TT := tt_5 (i := 150) rfl rfl
theorem tw_5_166 : Cond.code yX3_commonDivisor cX3_commonDivisor 11 (some .long) ∈ TT := tt_5 (i := 166) rfl rfl
theorem tw_5_164 : Cond.methodLink RX3 75 yX3_commonDivisor ∈ TT := tt_5 (i := 164) rfl rfl
theorem tw_5_165 : Cond.static yX3_commonDivisor ∈ TT := tt_5 (i := 165) rfl rfl
theorem tw_5_175 : Cond.constantLong RX3 79 (100) ∈ TT := tt_5 (i := 175) rfl rfl
theorem tw_2_45 : Cond.fieldLink RX4 21 "DarkGate$Owners" "own" "LDarkGate$Dark;" ∈ TT := tt_2 (i := 45) rfl rfl
theorem tw_2_47 : Cond.laysFinal RX4 "DarkGate$Owners" "owner" "[I" ∈ TT := tt_2 (i := 47) rfl rfl
theorem tw_2_49 : Cond.laysFinal RX4 "DarkGate$Owners" "strangersAt" "[I" ∈ TT := tt_2 (i := 49) rfl rfl
theorem tw_2_51 : Cond.laysFinal RX4 "DarkGate$Owners" "own" "LDarkGate$Dark;" ∈ TT := tt_2 (i := 51) rfl rfl
theorem tw_2_53 : Cond.laysFinal RX4 "DarkGate$Owners" "strange" "LDarkGate$Dark;" ∈ TT := tt_2 (i := 53) rfl rfl
theorem tw_3_178 : Cond.code yX1_fallNow cX1_fallNow 2 none ∈ TT := tt_3 (i := 178) rfl rfl
theorem tw_4_44 : Cond.methodLink RX4 28 yX1_fallNow ∈ TT := tt_4 (i := 44) rfl rfl
theorem tw_3_176 : Cond.instanceMethod yX1_fallNow ∈ TT := tt_3 (i := 176) rfl rfl
theorem tw_3_177 : Cond.selects RX1 yX1_fallNow yX1_fallNow ∈ TT := tt_3 (i := 177) rfl rfl
theorem tw_2_43 : Cond.fieldLink RX4 15 "DarkGate$Owners" "strangersAt" "[I" ∈ TT := tt_2 (i := 43) rfl rfl
theorem tw_4_45 : Cond.constant RX4 32 (1000000) ∈ TT := tt_4 (i := 45) rfl rfl
theorem tw_4_46 : Cond.methodLink RX4 33 yJ7_fill_53178 ∈ TT := tt_4 (i := 46) rfl rfl
theorem tw_2_41 : Cond.fieldLink RX4 9 "DarkGate$Owners" "owner" "[I" ∈ TT := tt_2 (i := 41) rfl rfl
theorem tw_1_143 : Cond.fieldLink RX4 39 "DarkGate$Town" "strangers" "I" ∈ TT := tt_1 (i := 143) rfl rfl
theorem tw_1_69 : Cond.fieldLink RX4 55 "DarkGate$Town" "streets" "I" ∈ TT := tt_1 (i := 69) rfl rfl
theorem tw_2_19 : Cond.fieldLink RX4 58 "DarkGate$Dark" "at" "[I" ∈ TT := tt_2 (i := 19) rfl rfl
theorem tw_2_46 : Cond.fieldLink RX4 25 "DarkGate$Owners" "strange" "LDarkGate$Dark;" ∈ TT := tt_2 (i := 46) rfl rfl
theorem tw_1_147 : Cond.fieldLink RX4 45 "DarkGate$Town" "strangerAt" "[I" ∈ TT := tt_1 (i := 147) rfl rfl
theorem tw_1_150 : Cond.fieldLink RX4 48 "DarkGate$Town" "strangerFrom" "[I" ∈ TT := tt_1 (i := 150) rfl rfl
theorem tw_4_47 : Cond.methodLink RX4 51 yX1_fallFrom ∈ TT := tt_4 (i := 47) rfl rfl
theorem tw_1_84 : Cond.fieldLink RX4 61 "DarkGate$Town" "laneFrom" "[I" ∈ TT := tt_1 (i := 84) rfl rfl
theorem tw_1_89 : Cond.fieldLink RX4 64 "DarkGate$Town" "laneTo" "[I" ∈ TT := tt_1 (i := 89) rfl rfl
theorem tw_1_120 : Cond.fieldLink RX5 18 "DarkGate$Town" "houses" "I" ∈ TT := tt_1 (i := 120) rfl rfl
theorem tw_1_139 : Cond.fieldLink RX5 34 "DarkGate$Town" "loads" "[I" ∈ TT := tt_1 (i := 139) rfl rfl
theorem tw_2_148 : Cond.fieldLink RX5 9 "DarkGate$Packing" "room" "[I" ∈ TT := tt_2 (i := 148) rfl rfl
theorem tw_2_150 : Cond.laysFinal RX5 "DarkGate$Packing" "room" "[I" ∈ TT := tt_2 (i := 150) rfl rfl
theorem tw_2_152 : Cond.laysFinal RX5 "DarkGate$Packing" "cartOf" "[I" ∈ TT := tt_2 (i := 152) rfl rfl
theorem tw_2_149 : Cond.fieldLink RX5 15 "DarkGate$Packing" "cartOf" "[I" ∈ TT := tt_2 (i := 149) rfl rfl
theorem tw_5_84 : Cond.methodLink RX5 37 yJ9_max_7cf53 ∈ TT := tt_5 (i := 84) rfl rfl
theorem tw_5_83 : Cond.code yX5_packs cX5_packs 7 (some .boolean) ∈ TT := tt_5 (i := 83) rfl rfl
theorem tw_5_80 : Cond.methodLink RX5 30 yX5_packs ∈ TT := tt_5 (i := 80) rfl rfl
theorem tw_5_82 : Cond.instanceMethod yX5_packs ∈ TT := tt_5 (i := 82) rfl rfl
theorem tw_p_31 : Cond.selects RX5 yX5_packs yX5_packs ∈ TT := tt_p (i := 31) (q := (yX5_packs, 2)) rfl
theorem tw_1_11 : Cond.initialized RX5 ∈ TT := tt_1 (i := 11) rfl rfl
theorem tw_5_79 : Cond.methodLink RX5 24 yJ7_fill_53178 ∈ TT := tt_5 (i := 79) rfl rfl
theorem tw_2_132 : Cond.fieldLink RX6 25 "DarkGate$Places" "dark" "LDarkGate$Dark;" ∈ TT := tt_2 (i := 132) rfl rfl
theorem tw_2_133 : Cond.lays RX6 "DarkGate$Places" "soonestFull" "I" ∈ TT := tt_2 (i := 133) rfl rfl
theorem tw_2_135 : Cond.lays RX6 "DarkGate$Places" "soonestSet" "I" ∈ TT := tt_2 (i := 135) rfl rfl
theorem tw_2_137 : Cond.lays RX6 "DarkGate$Places" "leastSum" "I" ∈ TT := tt_2 (i := 137) rfl rfl
theorem tw_2_139 : Cond.laysFinal RX6 "DarkGate$Places" "dark" "LDarkGate$Dark;" ∈ TT := tt_2 (i := 139) rfl rfl
theorem tw_5_58 : Cond.code yX1_fallAt cX1_fallAt 4 none ∈ TT := tt_5 (i := 58) rfl rfl
theorem tw_5_55 : Cond.methodLink RX6 50 yX1_fallAt ∈ TT := tt_5 (i := 55) rfl rfl
theorem tw_5_56 : Cond.instanceMethod yX1_fallAt ∈ TT := tt_5 (i := 56) rfl rfl
theorem tw_5_57 : Cond.selects RX1 yX1_fallAt yX1_fallAt ∈ TT := tt_5 (i := 57) rfl rfl
theorem tw_4_9 : Cond.code yX1_latest cX1_latest 4 (some .int) ∈ TT := tt_4 (i := 9) rfl rfl
theorem tw_5_59 : Cond.methodLink RX6 53 yX1_latest ∈ TT := tt_5 (i := 59) rfl rfl
theorem tw_4_7 : Cond.instanceMethod yX1_latest ∈ TT := tt_4 (i := 7) rfl rfl
theorem tw_4_8 : Cond.selects RX1 yX1_latest yX1_latest ∈ TT := tt_4 (i := 8) rfl rfl
theorem tw_2_123 : Cond.constant RX6 9 (1000000) ∈ TT := tt_2 (i := 123) rfl rfl
theorem tw_2_126 : Cond.fieldLink RX6 10 "DarkGate$Places" "soonestFull" "I" ∈ TT := tt_2 (i := 126) rfl rfl
theorem tw_1_68 : Cond.fieldLink RX6 29 "DarkGate$Town" "streets" "I" ∈ TT := tt_1 (i := 68) rfl rfl
theorem tw_2_130 : Cond.fieldLink RX6 19 "DarkGate$Places" "leastSum" "I" ∈ TT := tt_2 (i := 130) rfl rfl
theorem tw_5_49 : Cond.methodLink RX6 34 yJ9_min_7cf53 ∈ TT := tt_5 (i := 49) rfl rfl
theorem tw_2_20 : Cond.fieldLink RX6 57 "DarkGate$Dark" "at" "[I" ∈ TT := tt_2 (i := 20) rfl rfl
theorem tw_2_128 : Cond.fieldLink RX6 16 "DarkGate$Places" "soonestSet" "I" ∈ TT := tt_2 (i := 128) rfl rfl
theorem tw_5_50 : Cond.methodLink RX6 40 yJ6_bitCount_0f7a4 ∈ TT := tt_5 (i := 50) rfl rfl
theorem tw_5_54 : Cond.code yX6_weigh cX6_weigh 6 none ∈ TT := tt_5 (i := 54) rfl rfl
theorem tw_5_51 : Cond.methodLink RX6 46 yX6_weigh ∈ TT := tt_5 (i := 51) rfl rfl
theorem tw_5_53 : Cond.instanceMethod yX6_weigh ∈ TT := tt_5 (i := 53) rfl rfl
theorem tw_p_30 : Cond.selects RX6 yX6_weigh yX6_weigh ∈ TT := tt_p (i := 30) (q := (yX6_weigh, 4)) rfl
theorem tw_1_10 : Cond.initialized RX6 ∈ TT := tt_1 (i := 10) rfl rfl
theorem tw_2_68 : Cond.fieldLink RX7 21 "DarkGate$Plans" "dark" "LDarkGate$Dark;" ∈ TT := tt_2 (i := 68) rfl rfl
theorem tw_2_73 : Cond.lays RX7 "DarkGate$Plans" "greatest" "I" ∈ TT := tt_2 (i := 73) rfl rfl
theorem tw_2_75 : Cond.lays RX7 "DarkGate$Plans" "found" "I" ∈ TT := tt_2 (i := 75) rfl rfl
theorem tw_2_77 : Cond.laysFinal RX7 "DarkGate$Plans" "dark" "LDarkGate$Dark;" ∈ TT := tt_2 (i := 77) rfl rfl
theorem tw_2_79 : Cond.laysFinal RX7 "DarkGate$Plans" "ways" "[I" ∈ TT := tt_2 (i := 79) rfl rfl
theorem tw_2_81 : Cond.lays RX7 "DarkGate$Plans" "waysKnown" "I" ∈ TT := tt_2 (i := 81) rfl rfl
theorem tw_2_83 : Cond.laysFinal RX7 "DarkGate$Plans" "gladBy" "[I" ∈ TT := tt_2 (i := 83) rfl rfl
theorem tw_2_85 : Cond.laysFinal RX7 "DarkGate$Plans" "townsBest" "[I" ∈ TT := tt_2 (i := 85) rfl rfl
theorem tw_4_130 : Cond.methodLink RX7 48 yX10_openLanes ∈ TT := tt_4 (i := 130) rfl rfl
theorem tw_4_131 : Cond.methodLink RX7 54 yX1_fall ∈ TT := tt_4 (i := 131) rfl rfl
theorem tw_4_89 : Cond.code yX1_gladOfAll cX1_gladOfAll 4 (some .int) ∈ TT := tt_4 (i := 89) rfl rfl
theorem tw_4_132 : Cond.methodLink RX7 58 yX1_gladOfAll ∈ TT := tt_4 (i := 132) rfl rfl
theorem tw_4_87 : Cond.instanceMethod yX1_gladOfAll ∈ TT := tt_4 (i := 87) rfl rfl
theorem tw_4_88 : Cond.selects RX1 yX1_gladOfAll yX1_gladOfAll ∈ TT := tt_4 (i := 88) rfl rfl
theorem tw_2_64 : Cond.fieldLink RX7 9 "DarkGate$Plans" "greatest" "I" ∈ TT := tt_2 (i := 64) rfl rfl
theorem tw_2_66 : Cond.fieldLink RX7 15 "DarkGate$Plans" "found" "I" ∈ TT := tt_2 (i := 66) rfl rfl
theorem tw_4_125 : Cond.methodLink RX7 38 yJ6_bitCount_0f7a4 ∈ TT := tt_4 (i := 125) rfl rfl
theorem tw_4_129 : Cond.code yX7_weighTurn cX7_weighTurn 4 none ∈ TT := tt_4 (i := 129) rfl rfl
theorem tw_4_126 : Cond.methodLink RX7 44 yX7_weighTurn ∈ TT := tt_4 (i := 126) rfl rfl
theorem tw_4_128 : Cond.instanceMethod yX7_weighTurn ∈ TT := tt_4 (i := 128) rfl rfl
theorem tw_p_25 : Cond.selects RX7 yX7_weighTurn yX7_weighTurn ∈ TT := tt_p (i := 25) (q := (yX7_weighTurn, 7)) rfl
theorem tw_1_8 : Cond.initialized RX7 ∈ TT := tt_1 (i := 8) rfl rfl
theorem tw_2_70 : Cond.fieldLink RX7 29 "DarkGate$Plans" "waysKnown" "I" ∈ TT := tt_2 (i := 70) rfl rfl
theorem tw_2_69 : Cond.fieldLink RX7 25 "DarkGate$Plans" "ways" "[I" ∈ TT := tt_2 (i := 69) rfl rfl
theorem tw_2_22 : Cond.fieldLink RX7 70 "DarkGate$Dark" "at" "[I" ∈ TT := tt_2 (i := 22) rfl rfl
theorem tw_4_160 : Cond.methodLink RX7 73 yX1_wayTo ∈ TT := tt_4 (i := 160) rfl rfl
theorem tw_4_155 : Cond.code yX7_cutsKnownWays cX7_cutsKnownWays 3 (some .boolean) ∈ TT := tt_4 (i := 155) rfl rfl
theorem tw_4_152 : Cond.methodLink RX7 62 yX7_cutsKnownWays ∈ TT := tt_4 (i := 152) rfl rfl
theorem tw_4_154 : Cond.instanceMethod yX7_cutsKnownWays ∈ TT := tt_4 (i := 154) rfl rfl
theorem tw_p_26 : Cond.selects RX7 yX7_cutsKnownWays yX7_cutsKnownWays ∈ TT := tt_p (i := 26) (q := (yX7_cutsKnownWays, 7)) rfl
theorem tw_4_159 : Cond.code yX7_cutsAll cX7_cutsAll 5 (some .boolean) ∈ TT := tt_4 (i := 159) rfl rfl
theorem tw_4_156 : Cond.methodLink RX7 66 yX7_cutsAll ∈ TT := tt_4 (i := 156) rfl rfl
theorem tw_4_158 : Cond.instanceMethod yX7_cutsAll ∈ TT := tt_4 (i := 158) rfl rfl
theorem tw_p_27 : Cond.selects RX7 yX7_cutsAll yX7_cutsAll ∈ TT := tt_p (i := 27) (q := (yX7_cutsAll, 7)) rfl
theorem tw_1_117 : Cond.fieldLink RX7 97 "DarkGate$Town" "gateHolds" "[I" ∈ TT := tt_1 (i := 117) rfl rfl
theorem tw_5_117 : Cond.methodLink RX7 100 yX1_fallHeld ∈ TT := tt_5 (i := 117) rfl rfl
theorem tw_1_107 : Cond.fieldLink RX7 77 "DarkGate$Town" "gates" "I" ∈ TT := tt_1 (i := 107) rfl rfl
theorem tw_2_72 : Cond.fieldLink RX7 35 "DarkGate$Plans" "townsBest" "[I" ∈ TT := tt_2 (i := 72) rfl rfl
theorem tw_1_80 : Cond.fieldLink RX7 84 "DarkGate$Town" "lanes" "I" ∈ TT := tt_1 (i := 80) rfl rfl
theorem tw_5_120 : Cond.code yX7_isOpenIn cX7_isOpenIn 2 (some .boolean) ∈ TT := tt_5 (i := 120) rfl rfl
theorem tw_5_118 : Cond.methodLink RX7 87 yX7_isOpenIn ∈ TT := tt_5 (i := 118) rfl rfl
theorem tw_5_119 : Cond.static yX7_isOpenIn ∈ TT := tt_5 (i := 119) rfl rfl
theorem tw_5_116 : Cond.code yX7_gladClerked cX7_gladClerked 5 (some .int) ∈ TT := tt_5 (i := 116) rfl rfl
theorem tw_5_113 : Cond.methodLink RX7 80 yX7_gladClerked ∈ TT := tt_5 (i := 113) rfl rfl
theorem tw_5_115 : Cond.instanceMethod yX7_gladClerked ∈ TT := tt_5 (i := 115) rfl rfl
theorem tw_p_32 : Cond.selects RX7 yX7_gladClerked yX7_gladClerked ∈ TT := tt_p (i := 32) (q := (yX7_gladClerked, 7)) rfl
theorem tw_2_71 : Cond.fieldLink RX7 32 "DarkGate$Plans" "gladBy" "[I" ∈ TT := tt_2 (i := 71) rfl rfl
theorem tw_5_121 : Cond.methodLink RX7 91 yJ9_max_7cf53 ∈ TT := tt_5 (i := 121) rfl rfl
theorem tw_5_129 : Cond.code yX7_pairRests cX7_pairRests 6 (some .boolean) ∈ TT := tt_5 (i := 129) rfl rfl
theorem tw_5_126 : Cond.methodLink RX7 104 yX7_pairRests ∈ TT := tt_5 (i := 126) rfl rfl
theorem tw_5_128 : Cond.instanceMethod yX7_pairRests ∈ TT := tt_5 (i := 128) rfl rfl
theorem tw_p_33 : Cond.selects RX7 yX7_pairRests yX7_pairRests ∈ TT := tt_p (i := 33) (q := (yX7_pairRests, 7)) rfl
theorem tw_2_0 : Cond.fieldLink RX8 22 "DarkGate$Rows" "made" "I" ∈ TT := tt_2 (i := 0) rfl rfl
theorem tw_5_233 : Cond.methodLink RX8 26 yJ6_bitCount_0f7a4 ∈ TT := tt_5 (i := 233) rfl rfl
theorem tw_1_239 : Cond.fieldLink RX8 19 "DarkGate$Rows" "widths" "[I" ∈ TT := tt_1 (i := 239) rfl rfl
theorem tw_6_40 : Cond.code yX8_reaches cX8_reaches 4 (some .boolean) ∈ TT := tt_6 (i := 40) rfl rfl
theorem tw_6_45 : Cond.methodLink RX8 39 yX8_reaches ∈ TT := tt_6 (i := 45) rfl rfl
theorem tw_6_38 : Cond.instanceMethod yX8_reaches ∈ TT := tt_6 (i := 38) rfl rfl
theorem tw_6_39 : Cond.selects RX8 yX8_reaches yX8_reaches ∈ TT := tt_6 (i := 39) rfl rfl
theorem tw_6_46 : Cond.methodLink RX8 43 arraycopyName ∈ TT := tt_6 (i := 46) rfl rfl
theorem tw_4_229 : Cond.methodLink RX8 49 yX8_number ∈ TT := tt_4 (i := 229) rfl rfl
theorem tw_4_233 : Cond.constantLong RX8 53 (-1) ∈ TT := tt_4 (i := 233) rfl rfl
theorem tw_4_234 : Cond.constantLong RX8 55 (999) ∈ TT := tt_4 (i := 234) rfl rfl
theorem tw_1_195 : Cond.fieldLink RX9 9 "DarkGate$Tape" "size" "I" ∈ TT := tt_1 (i := 195) rfl rfl
theorem tw_1_208 : Cond.lays RX9 "DarkGate$Tape" "size" "I" ∈ TT := tt_1 (i := 208) rfl rfl
theorem tw_1_210 : Cond.lays RX9 "DarkGate$Tape" "fault" "I" ∈ TT := tt_1 (i := 210) rfl rfl
theorem tw_1_212 : Cond.lays RX9 "DarkGate$Tape" "place" "I" ∈ TT := tt_1 (i := 212) rfl rfl
theorem tw_1_214 : Cond.lays RX9 "DarkGate$Tape" "draft" "LDarkGate$Town;" ∈ TT := tt_1 (i := 214) rfl rfl
theorem tw_1_216 : Cond.laysFinal RX9 "DarkGate$Tape" "bytes" "[B" ∈ TT := tt_1 (i := 216) rfl rfl
theorem tw_1_218 : Cond.lays RX9 "DarkGate$Tape" "kind" "I" ∈ TT := tt_1 (i := 218) rfl rfl
theorem tw_1_220 : Cond.lays RX9 "DarkGate$Tape" "start" "I" ∈ TT := tt_1 (i := 220) rfl rfl
theorem tw_1_222 : Cond.lays RX9 "DarkGate$Tape" "stop" "I" ∈ TT := tt_1 (i := 222) rfl rfl
theorem tw_1_224 : Cond.lays RX9 "DarkGate$Tape" "value" "I" ∈ TT := tt_1 (i := 224) rfl rfl
theorem tw_1_203 : Cond.fieldLink RX9 28 "DarkGate$Tape" "bytes" "[B" ∈ TT := tt_1 (i := 203) rfl rfl
theorem tw_1_67 : Cond.fieldLink RX10 9 "DarkGate$Town" "streets" "I" ∈ TT := tt_1 (i := 67) rfl rfl
theorem tw_1_74 : Cond.fieldLink RX10 15 "DarkGate$Town" "lines" "I" ∈ TT := tt_1 (i := 74) rfl rfl
theorem tw_1_103 : Cond.fieldLink RX10 37 "DarkGate$Town" "gates" "I" ∈ TT := tt_1 (i := 103) rfl rfl
theorem tw_1_119 : Cond.fieldLink RX10 46 "DarkGate$Town" "houses" "I" ∈ TT := tt_1 (i := 119) rfl rfl
theorem tw_1_142 : Cond.fieldLink RX10 61 "DarkGate$Town" "strangers" "I" ∈ TT := tt_1 (i := 142) rfl rfl
theorem tw_1_152 : Cond.fieldLink RX10 73 "DarkGate$Town" "acts" "LDarkGate$Acts;" ∈ TT := tt_1 (i := 152) rfl rfl
theorem tw_1_49 : Cond.fieldLink RX10 77 "DarkGate$Acts" "done" "I" ∈ TT := tt_1 (i := 49) rfl rfl
theorem tw_1_206 : Cond.fieldLink RX9 38 "DarkGate$Tape" "stop" "I" ∈ TT := tt_1 (i := 206) rfl rfl
theorem tw_1_205 : Cond.fieldLink RX9 35 "DarkGate$Tape" "start" "I" ∈ TT := tt_1 (i := 205) rfl rfl
theorem tw_1_207 : Cond.fieldLink RX9 41 "DarkGate$Tape" "value" "I" ∈ TT := tt_1 (i := 207) rfl rfl
theorem tw_3_5 : Cond.code yX9_byteAt cX9_byteAt 2 (some .int) ∈ TT := tt_3 (i := 5) rfl rfl
theorem tw_3_2 : Cond.methodLink RX9 184 yX9_byteAt ∈ TT := tt_3 (i := 2) rfl rfl
theorem tw_3_4 : Cond.instanceMethod yX9_byteAt ∈ TT := tt_3 (i := 4) rfl rfl
theorem tw_p_1 : Cond.selects RX9 yX9_byteAt yX9_byteAt ∈ TT := tt_p (i := 1) (q := (yX9_byteAt, 9)) rfl
theorem tw_1_2 : Cond.initialized RX9 ∈ TT := tt_1 (i := 2) rfl rfl
theorem tw_3_11 : Cond.code yX9_isLetter cX9_isLetter 1 (some .boolean) ∈ TT := tt_3 (i := 11) rfl rfl
theorem tw_3_9 : Cond.methodLink RX9 195 yX9_isLetter ∈ TT := tt_3 (i := 9) rfl rfl
theorem tw_3_10 : Cond.static yX9_isLetter ∈ TT := tt_3 (i := 10) rfl rfl
theorem tw_3_14 : Cond.code yX9_isDigit cX9_isDigit 1 (some .boolean) ∈ TT := tt_3 (i := 14) rfl rfl
theorem tw_3_12 : Cond.methodLink RX9 198 yX9_isDigit ∈ TT := tt_3 (i := 12) rfl rfl
theorem tw_3_13 : Cond.static yX9_isDigit ∈ TT := tt_3 (i := 13) rfl rfl
theorem tw_1_204 : Cond.fieldLink RX9 32 "DarkGate$Tape" "kind" "I" ∈ TT := tt_1 (i := 204) rfl rfl
theorem tw_3_15 : Cond.constant RX9 201 (1000000) ∈ TT := tt_3 (i := 15) rfl rfl
theorem tw_3_16 : Cond.methodLink RX9 202 yJ9_min_7cf53 ∈ TT := tt_3 (i := 16) rfl rfl
theorem tw_3_8 : Cond.code yX9_isBlank cX9_isBlank 1 (some .boolean) ∈ TT := tt_3 (i := 8) rfl rfl
theorem tw_3_6 : Cond.methodLink RX9 192 yX9_isBlank ∈ TT := tt_3 (i := 6) rfl rfl
theorem tw_3_7 : Cond.static yX9_isBlank ∈ TT := tt_3 (i := 7) rfl rfl
theorem tw_3_36 : Cond.fieldLink RJ0 38 "java/lang/String" "COMPACT_STRINGS" "Z" ∈ TT := tt_3 (i := 36) rfl rfl
theorem tw_9_26 : Cond.fieldLink RJ0 15 "java/lang/String" "coder" "B" ∈ TT := tt_9 (i := 26) rfl rfl
theorem tw_9_25 : Cond.fieldLink RJ0 9 "java/lang/String" "value" "[B" ∈ TT := tt_9 (i := 25) rfl rfl
theorem tw_3_35 : Cond.code yJ0_coder_7d493 cJ0_coder_7d493 1 (some .byte) ∈ TT := tt_3 (i := 35) rfl rfl
theorem tw_3_32 : Cond.methodLink RJ0 335 yJ0_coder_7d493 ∈ TT := tt_3 (i := 32) rfl rfl
theorem tw_3_33 : Cond.instanceMethod yJ0_coder_7d493 ∈ TT := tt_3 (i := 33) rfl rfl
theorem tw_3_34 : Cond.selects RJ0 yJ0_coder_7d493 yJ0_coder_7d493 ∈ TT := tt_3 (i := 34) rfl rfl
theorem tw_1_15 : Cond.initialized RJ0 ∈ TT := tt_1 (i := 15) rfl rfl
theorem tw_3_52 : Cond.fieldLink RJ0 1053 "jdk/internal/util/Preconditions" "SIOOBE_FORMATTER" "Ljava/util/function/BiFunction;" ∈ TT := tt_3 (i := 52) rfl rfl
theorem tw_3_56 : Cond.code yJ3_checkIndex_8e157 cJ3_checkIndex_8e157 3 (some .int) ∈ TT := tt_3 (i := 56) rfl rfl
theorem tw_3_54 : Cond.methodLink RJ0 1059 yJ3_checkIndex_8e157 ∈ TT := tt_3 (i := 54) rfl rfl
theorem tw_3_55 : Cond.static yJ3_checkIndex_8e157 ∈ TT := tt_3 (i := 55) rfl rfl
theorem tw_1_17 : Cond.initialized RJ3 ∈ TT := tt_1 (i := 17) rfl rfl
theorem tw_3_51 : Cond.code yJ0_checkIndex_df160 cJ0_checkIndex_df160 2 none ∈ TT := tt_3 (i := 51) rfl rfl
theorem tw_3_49 : Cond.methodLink RJ1 9 yJ0_checkIndex_df160 ∈ TT := tt_3 (i := 49) rfl rfl
theorem tw_3_50 : Cond.static yJ0_checkIndex_df160 ∈ TT := tt_3 (i := 50) rfl rfl
theorem tw_3_45 : Cond.code yJ0_isLatin1_aae02 cJ0_isLatin1_aae02 1 (some .boolean) ∈ TT := tt_3 (i := 45) rfl rfl
theorem tw_3_42 : Cond.methodLink RJ0 492 yJ0_isLatin1_aae02 ∈ TT := tt_3 (i := 42) rfl rfl
theorem tw_3_43 : Cond.instanceMethod yJ0_isLatin1_aae02 ∈ TT := tt_3 (i := 43) rfl rfl
theorem tw_3_44 : Cond.selects RJ0 yJ0_isLatin1_aae02 yJ0_isLatin1_aae02 ∈ TT := tt_3 (i := 44) rfl rfl
theorem tw_3_48 : Cond.code yJ1_charAt_3b067 cJ1_charAt_3b067 2 (some .char) ∈ TT := tt_3 (i := 48) rfl rfl
theorem tw_3_46 : Cond.methodLink RJ0 495 yJ1_charAt_3b067 ∈ TT := tt_3 (i := 46) rfl rfl
theorem tw_3_47 : Cond.static yJ1_charAt_3b067 ∈ TT := tt_3 (i := 47) rfl rfl
theorem tw_1_16 : Cond.initialized RJ1 ∈ TT := tt_1 (i := 16) rfl rfl
theorem tw_3_31 : Cond.code yJ0_length_8abf5 cJ0_length_8abf5 1 (some .int) ∈ TT := tt_3 (i := 31) rfl rfl
theorem tw_3_28 : Cond.methodLink RX9 178 yJ0_length_8abf5 ∈ TT := tt_3 (i := 28) rfl rfl
theorem tw_3_29 : Cond.instanceMethod yJ0_length_8abf5 ∈ TT := tt_3 (i := 29) rfl rfl
theorem tw_3_30 : Cond.selects RJ0 yJ0_length_8abf5 yJ0_length_8abf5 ∈ TT := tt_3 (i := 30) rfl rfl
theorem tw_3_41 : Cond.code yJ0_charAt_5068e cJ0_charAt_5068e 2 (some .char) ∈ TT := tt_3 (i := 41) rfl rfl
theorem tw_3_38 : Cond.methodLink RX9 188 yJ0_charAt_5068e ∈ TT := tt_3 (i := 38) rfl rfl
theorem tw_3_39 : Cond.instanceMethod yJ0_charAt_5068e ∈ TT := tt_3 (i := 39) rfl rfl
theorem tw_3_40 : Cond.selects RJ0 yJ0_charAt_5068e yJ0_charAt_5068e ∈ TT := tt_3 (i := 40) rfl rfl
theorem tw_1_197 : Cond.fieldLink RX9 15 "DarkGate$Tape" "fault" "I" ∈ TT := tt_1 (i := 197) rfl rfl
theorem tw_1_199 : Cond.fieldLink RX9 18 "DarkGate$Tape" "place" "I" ∈ TT := tt_1 (i := 199) rfl rfl
theorem tw_3_1 : Cond.code yX9_advance cX9_advance 1 none ∈ TT := tt_3 (i := 1) rfl rfl
theorem tw_2_238 : Cond.methodLink RX9 47 yX9_advance ∈ TT := tt_2 (i := 238) rfl rfl
theorem tw_3_0 : Cond.instanceMethod yX9_advance ∈ TT := tt_3 (i := 0) rfl rfl
theorem tw_p_0 : Cond.selects RX9 yX9_advance yX9_advance ∈ TT := tt_p (i := 0) (q := (yX9_advance, 9)) rfl
theorem tw_3_27 : Cond.code yX9_isWord cX9_isWord 3 (some .boolean) ∈ TT := tt_3 (i := 27) rfl rfl
theorem tw_3_24 : Cond.methodLink RX9 63 yX9_isWord ∈ TT := tt_3 (i := 24) rfl rfl
theorem tw_3_26 : Cond.instanceMethod yX9_isWord ∈ TT := tt_3 (i := 26) rfl rfl
theorem tw_p_3 : Cond.selects RX9 yX9_isWord yX9_isWord ∈ TT := tt_p (i := 3) (q := (yX9_isWord, 9)) rfl
theorem tw_3_88 : Cond.code yX9_refuse cX9_refuse 2 (some .boolean) ∈ TT := tt_3 (i := 88) rfl rfl
theorem tw_3_85 : Cond.methodLink RX9 57 yX9_refuse ∈ TT := tt_3 (i := 85) rfl rfl
theorem tw_3_87 : Cond.instanceMethod yX9_refuse ∈ TT := tt_3 (i := 87) rfl rfl
theorem tw_p_6 : Cond.selects RX9 yX9_refuse yX9_refuse ∈ TT := tt_p (i := 6) (q := (yX9_refuse, 9)) rfl
theorem tw_3_100 : Cond.code yX9_isSign cX9_isSign 1 (some .boolean) ∈ TT := tt_3 (i := 100) rfl rfl
theorem tw_3_97 : Cond.methodLink RX9 142 yX9_isSign ∈ TT := tt_3 (i := 97) rfl rfl
theorem tw_3_99 : Cond.instanceMethod yX9_isSign ∈ TT := tt_3 (i := 99) rfl rfl
theorem tw_p_9 : Cond.selects RX9 yX9_isSign yX9_isSign ∈ TT := tt_p (i := 9) (q := (yX9_isSign, 9)) rfl
theorem tw_3_84 : Cond.code yX9_takesWord cX9_takesWord 2 (some .boolean) ∈ TT := tt_3 (i := 84) rfl rfl
theorem tw_3_81 : Cond.methodLink RX9 107 yX9_takesWord ∈ TT := tt_3 (i := 81) rfl rfl
theorem tw_3_83 : Cond.instanceMethod yX9_takesWord ∈ TT := tt_3 (i := 83) rfl rfl
theorem tw_p_5 : Cond.selects RX9 yX9_takesWord yX9_takesWord ∈ TT := tt_p (i := 5) (q := (yX9_takesWord, 9)) rfl
theorem tw_3_92 : Cond.code yX9_takesNumber cX9_takesNumber 3 (some .boolean) ∈ TT := tt_3 (i := 92) rfl rfl
theorem tw_3_89 : Cond.methodLink RX9 110 yX9_takesNumber ∈ TT := tt_3 (i := 89) rfl rfl
theorem tw_3_91 : Cond.instanceMethod yX9_takesNumber ∈ TT := tt_3 (i := 91) rfl rfl
theorem tw_p_7 : Cond.selects RX9 yX9_takesNumber yX9_takesNumber ∈ TT := tt_p (i := 7) (q := (yX9_takesNumber, 9)) rfl
theorem tw_1_201 : Cond.fieldLink RX9 24 "DarkGate$Tape" "draft" "LDarkGate$Town;" ∈ TT := tt_1 (i := 201) rfl rfl
theorem tw_1_71 : Cond.fieldLink RX9 114 "DarkGate$Town" "streets" "I" ∈ TT := tt_1 (i := 71) rfl rfl
theorem tw_3_96 : Cond.code yX9_takesSign cX9_takesSign 1 (some .boolean) ∈ TT := tt_3 (i := 96) rfl rfl
theorem tw_3_93 : Cond.methodLink RX9 116 yX9_takesSign ∈ TT := tt_3 (i := 93) rfl rfl
theorem tw_3_95 : Cond.instanceMethod yX9_takesSign ∈ TT := tt_3 (i := 95) rfl rfl
theorem tw_p_8 : Cond.selects RX9 yX9_takesSign yX9_takesSign ∈ TT := tt_p (i := 8) (q := (yX9_takesSign, 9)) rfl
theorem tw_1_86 : Cond.fieldLink RX9 119 "DarkGate$Town" "laneFrom" "[I" ∈ TT := tt_1 (i := 86) rfl rfl
theorem tw_1_92 : Cond.fieldLink RX9 125 "DarkGate$Town" "laneTo" "[I" ∈ TT := tt_1 (i := 92) rfl rfl
theorem tw_1_95 : Cond.fieldLink RX9 130 "DarkGate$Town" "takes" "[I" ∈ TT := tt_1 (i := 95) rfl rfl
theorem tw_1_100 : Cond.fieldLink RX9 132 "DarkGate$Town" "muddy" "[I" ∈ TT := tt_1 (i := 100) rfl rfl
theorem tw_1_79 : Cond.fieldLink RX9 72 "DarkGate$Town" "lanes" "I" ∈ TT := tt_1 (i := 79) rfl rfl
theorem tw_3_117 : Cond.code yX10_setBarred cX10_setBarred 3 none ∈ TT := tt_3 (i := 117) rfl rfl
theorem tw_3_114 : Cond.methodLink RX9 138 yX10_setBarred ∈ TT := tt_3 (i := 114) rfl rfl
theorem tw_3_115 : Cond.instanceMethod yX10_setBarred ∈ TT := tt_3 (i := 115) rfl rfl
theorem tw_3_116 : Cond.selects RX10 yX10_setBarred yX10_setBarred ∈ TT := tt_3 (i := 116) rfl rfl
theorem tw_1_113 : Cond.fieldLink RX9 147 "DarkGate$Town" "gateAt" "[I" ∈ TT := tt_1 (i := 113) rfl rfl
theorem tw_1_118 : Cond.fieldLink RX9 152 "DarkGate$Town" "gateHolds" "[I" ∈ TT := tt_1 (i := 118) rfl rfl
theorem tw_1_106 : Cond.fieldLink RX9 83 "DarkGate$Town" "gates" "I" ∈ TT := tt_1 (i := 106) rfl rfl
theorem tw_1_128 : Cond.fieldLink RX9 155 "DarkGate$Town" "houseAt" "[I" ∈ TT := tt_1 (i := 128) rfl rfl
theorem tw_1_132 : Cond.fieldLink RX9 160 "DarkGate$Town" "wants" "[I" ∈ TT := tt_1 (i := 132) rfl rfl
theorem tw_1_136 : Cond.fieldLink RX9 164 "DarkGate$Town" "pays" "[I" ∈ TT := tt_1 (i := 136) rfl rfl
theorem tw_1_141 : Cond.fieldLink RX9 168 "DarkGate$Town" "loads" "[I" ∈ TT := tt_1 (i := 141) rfl rfl
theorem tw_1_122 : Cond.fieldLink RX9 91 "DarkGate$Town" "houses" "I" ∈ TT := tt_1 (i := 122) rfl rfl
theorem tw_1_148 : Cond.fieldLink RX9 170 "DarkGate$Town" "strangerAt" "[I" ∈ TT := tt_1 (i := 148) rfl rfl
theorem tw_1_151 : Cond.fieldLink RX9 175 "DarkGate$Town" "strangerFrom" "[I" ∈ TT := tt_1 (i := 151) rfl rfl
theorem tw_1_144 : Cond.fieldLink RX9 99 "DarkGate$Town" "strangers" "I" ∈ TT := tt_1 (i := 144) rfl rfl
theorem tw_1_76 : Cond.fieldLink RX9 54 "DarkGate$Town" "lines" "I" ∈ TT := tt_1 (i := 76) rfl rfl
theorem tw_3_137 : Cond.code yX9_readsStranger cX9_readsStranger 2 (some .boolean) ∈ TT := tt_3 (i := 137) rfl rfl
theorem tw_3_134 : Cond.methodLink RX9 102 yX9_readsStranger ∈ TT := tt_3 (i := 134) rfl rfl
theorem tw_3_136 : Cond.instanceMethod yX9_readsStranger ∈ TT := tt_3 (i := 136) rfl rfl
theorem tw_p_14 : Cond.selects RX9 yX9_readsStranger yX9_readsStranger ∈ TT := tt_p (i := 14) (q := (yX9_readsStranger, 9)) rfl
theorem tw_3_129 : Cond.code yX9_readsHouse cX9_readsHouse 2 (some .boolean) ∈ TT := tt_3 (i := 129) rfl rfl
theorem tw_3_126 : Cond.methodLink RX9 94 yX9_readsHouse ∈ TT := tt_3 (i := 126) rfl rfl
theorem tw_3_128 : Cond.instanceMethod yX9_readsHouse ∈ TT := tt_3 (i := 128) rfl rfl
theorem tw_p_13 : Cond.selects RX9 yX9_readsHouse yX9_readsHouse ∈ TT := tt_p (i := 13) (q := (yX9_readsHouse, 9)) rfl
theorem tw_3_122 : Cond.code yX9_readsGate cX9_readsGate 2 (some .boolean) ∈ TT := tt_3 (i := 122) rfl rfl
theorem tw_3_119 : Cond.methodLink RX9 86 yX9_readsGate ∈ TT := tt_3 (i := 119) rfl rfl
theorem tw_3_121 : Cond.instanceMethod yX9_readsGate ∈ TT := tt_3 (i := 121) rfl rfl
theorem tw_p_12 : Cond.selects RX9 yX9_readsGate yX9_readsGate ∈ TT := tt_p (i := 12) (q := (yX9_readsGate, 9)) rfl
theorem tw_3_105 : Cond.code yX9_readsLane cX9_readsLane 2 (some .boolean) ∈ TT := tt_3 (i := 105) rfl rfl
theorem tw_3_102 : Cond.methodLink RX9 75 yX9_readsLane ∈ TT := tt_3 (i := 102) rfl rfl
theorem tw_3_104 : Cond.instanceMethod yX9_readsLane ∈ TT := tt_3 (i := 104) rfl rfl
theorem tw_p_10 : Cond.selects RX9 yX9_readsLane yX9_readsLane ∈ TT := tt_p (i := 10) (q := (yX9_readsLane, 9)) rfl
theorem tw_3_111 : Cond.code yX9_readsLaneState cX9_readsLaneState 2 (some .boolean) ∈ TT := tt_3 (i := 111) rfl rfl
theorem tw_3_108 : Cond.methodLink RX9 78 yX9_readsLaneState ∈ TT := tt_3 (i := 108) rfl rfl
theorem tw_3_110 : Cond.instanceMethod yX9_readsLaneState ∈ TT := tt_3 (i := 110) rfl rfl
theorem tw_p_11 : Cond.selects RX9 yX9_readsLaneState yX9_readsLaneState ∈ TT := tt_p (i := 11) (q := (yX9_readsLaneState, 9)) rfl
theorem tw_3_79 : Cond.code yX9_readsTown cX9_readsTown 1 (some .boolean) ∈ TT := tt_3 (i := 79) rfl rfl
theorem tw_3_76 : Cond.methodLink RX9 67 yX9_readsTown ∈ TT := tt_3 (i := 76) rfl rfl
theorem tw_3_78 : Cond.instanceMethod yX9_readsTown ∈ TT := tt_3 (i := 78) rfl rfl
theorem tw_p_4 : Cond.selects RX9 yX9_readsTown yX9_readsTown ∈ TT := tt_p (i := 4) (q := (yX9_readsTown, 9)) rfl
theorem tw_2_237 : Cond.code yX10_clear cX10_clear 1 none ∈ TT := tt_2 (i := 237) rfl rfl
theorem tw_2_234 : Cond.methodLink RX9 44 yX10_clear ∈ TT := tt_2 (i := 234) rfl rfl
theorem tw_2_235 : Cond.instanceMethod yX10_clear ∈ TT := tt_2 (i := 235) rfl rfl
theorem tw_2_236 : Cond.selects RX10 yX10_clear yX10_clear ∈ TT := tt_2 (i := 236) rfl rfl
theorem tw_3_22 : Cond.code yX9_readsLine cX9_readsLine 2 (some .boolean) ∈ TT := tt_3 (i := 22) rfl rfl
theorem tw_3_19 : Cond.methodLink RX9 50 yX9_readsLine ∈ TT := tt_3 (i := 19) rfl rfl
theorem tw_3_21 : Cond.instanceMethod yX9_readsLine ∈ TT := tt_3 (i := 21) rfl rfl
theorem tw_p_2 : Cond.selects RX9 yX9_readsLine yX9_readsLine ∈ TT := tt_p (i := 2) (q := (yX9_readsLine, 9)) rfl
theorem tw_1_83 : Cond.fieldLink RX10 21 "DarkGate$Town" "laneFrom" "[I" ∈ TT := tt_1 (i := 83) rfl rfl
theorem tw_6_2 : Cond.methodLink RX10 80 arraycopyName ∈ TT := tt_6 (i := 2) rfl rfl
theorem tw_1_88 : Cond.fieldLink RX10 25 "DarkGate$Town" "laneTo" "[I" ∈ TT := tt_1 (i := 88) rfl rfl
theorem tw_1_93 : Cond.fieldLink RX10 28 "DarkGate$Town" "takes" "[I" ∈ TT := tt_1 (i := 93) rfl rfl
theorem tw_1_97 : Cond.fieldLink RX10 31 "DarkGate$Town" "muddy" "[I" ∈ TT := tt_1 (i := 97) rfl rfl
theorem tw_1_109 : Cond.fieldLink RX10 40 "DarkGate$Town" "gateAt" "[I" ∈ TT := tt_1 (i := 109) rfl rfl
theorem tw_1_114 : Cond.fieldLink RX10 43 "DarkGate$Town" "gateHolds" "[I" ∈ TT := tt_1 (i := 114) rfl rfl
theorem tw_1_125 : Cond.fieldLink RX10 49 "DarkGate$Town" "houseAt" "[I" ∈ TT := tt_1 (i := 125) rfl rfl
theorem tw_1_130 : Cond.fieldLink RX10 52 "DarkGate$Town" "wants" "[I" ∈ TT := tt_1 (i := 130) rfl rfl
theorem tw_1_134 : Cond.fieldLink RX10 55 "DarkGate$Town" "pays" "[I" ∈ TT := tt_1 (i := 134) rfl rfl
theorem tw_1_138 : Cond.fieldLink RX10 58 "DarkGate$Town" "loads" "[I" ∈ TT := tt_1 (i := 138) rfl rfl
theorem tw_1_146 : Cond.fieldLink RX10 64 "DarkGate$Town" "strangerAt" "[I" ∈ TT := tt_1 (i := 146) rfl rfl
theorem tw_1_149 : Cond.fieldLink RX10 67 "DarkGate$Town" "strangerFrom" "[I" ∈ TT := tt_1 (i := 149) rfl rfl
theorem tw_6_6 : Cond.code yX0_become cX0_become 2 none ∈ TT := tt_6 (i := 6) rfl rfl
theorem tw_6_3 : Cond.methodLink RX10 86 yX0_become ∈ TT := tt_6 (i := 3) rfl rfl
theorem tw_6_4 : Cond.instanceMethod yX0_become ∈ TT := tt_6 (i := 4) rfl rfl
theorem tw_6_5 : Cond.selects RX0 yX0_become yX0_become ∈ TT := tt_6 (i := 5) rfl rfl
theorem tw_1_4 : Cond.initialized RX0 ∈ TT := tt_1 (i := 4) rfl rfl
theorem tw_1_54 : Cond.fieldLink RX10 90 "DarkGate$Acts" "which" "[I" ∈ TT := tt_1 (i := 54) rfl rfl
theorem tw_1_56 : Cond.fieldLink RX10 93 "DarkGate$Acts" "was" "[I" ∈ TT := tt_1 (i := 56) rfl rfl
theorem tw_1_52 : Cond.fieldLink RX10 96 "DarkGate$Acts" "kind" "[I" ∈ TT := tt_1 (i := 52) rfl rfl
theorem tw_5_197 : Cond.methodLink RX10 99 yX10_setBarred ∈ TT := tt_5 (i := 197) rfl rfl
theorem tw_2_170 : Cond.fieldLink RX11 12 "DarkGate" "tape" "LDarkGate$Tape;" ∈ TT := tt_2 (i := 170) rfl rfl
theorem tw_2_183 : Cond.laysFinal RX11 "DarkGate" "tape" "LDarkGate$Tape;" ∈ TT := tt_2 (i := 183) rfl rfl
theorem tw_2_185 : Cond.lays RX11 "DarkGate" "town" "LDarkGate$Town;" ∈ TT := tt_2 (i := 185) rfl rfl
theorem tw_2_187 : Cond.laysFinal RX11 "DarkGate" "images" "[LDarkGate$Town;" ∈ TT := tt_2 (i := 187) rfl rfl
theorem tw_2_189 : Cond.lays RX11 "DarkGate" "imaged" "I" ∈ TT := tt_2 (i := 189) rfl rfl
theorem tw_2_191 : Cond.laysFinal RX11 "DarkGate" "rows" "LDarkGate$Rows;" ∈ TT := tt_2 (i := 191) rfl rfl
theorem tw_2_193 : Cond.laysFinal RX11 "DarkGate" "dark" "LDarkGate$Dark;" ∈ TT := tt_2 (i := 193) rfl rfl
theorem tw_2_195 : Cond.laysFinal RX11 "DarkGate" "other" "LDarkGate$Dark;" ∈ TT := tt_2 (i := 195) rfl rfl
theorem tw_2_197 : Cond.laysFinal RX11 "DarkGate" "owners" "LDarkGate$Owners;" ∈ TT := tt_2 (i := 197) rfl rfl
theorem tw_2_199 : Cond.laysFinal RX11 "DarkGate" "plans" "LDarkGate$Plans;" ∈ TT := tt_2 (i := 199) rfl rfl
theorem tw_2_201 : Cond.laysFinal RX11 "DarkGate" "holders" "LDarkGate$Holders;" ∈ TT := tt_2 (i := 201) rfl rfl
theorem tw_2_203 : Cond.laysFinal RX11 "DarkGate" "sites" "LDarkGate$Places;" ∈ TT := tt_2 (i := 203) rfl rfl
theorem tw_2_205 : Cond.laysFinal RX11 "DarkGate" "packing" "LDarkGate$Packing;" ∈ TT := tt_2 (i := 205) rfl rfl
theorem tw_2_207 : Cond.laysFinal RX11 "DarkGate" "mud" "LDarkGate$Mud;" ∈ TT := tt_2 (i := 207) rfl rfl
theorem tw_2_217 : Cond.code yX9_hasRoom cX9_hasRoom 1 (some .boolean) ∈ TT := tt_2 (i := 217) rfl rfl
theorem tw_2_214 : Cond.methodLink RX11 90 yX9_hasRoom ∈ TT := tt_2 (i := 214) rfl rfl
theorem tw_2_215 : Cond.instanceMethod yX9_hasRoom ∈ TT := tt_2 (i := 215) rfl rfl
theorem tw_2_216 : Cond.selects RX9 yX9_hasRoom yX9_hasRoom ∈ TT := tt_2 (i := 216) rfl rfl
theorem tw_2_221 : Cond.code yX9_append cX9_append 3 none ∈ TT := tt_2 (i := 221) rfl rfl
theorem tw_2_218 : Cond.methodLink RX11 94 yX9_append ∈ TT := tt_2 (i := 218) rfl rfl
theorem tw_2_219 : Cond.instanceMethod yX9_append ∈ TT := tt_2 (i := 219) rfl rfl
theorem tw_2_220 : Cond.selects RX9 yX9_append yX9_append ∈ TT := tt_2 (i := 220) rfl rfl
theorem tw_1_196 : Cond.fieldLink RX11 98 "DarkGate$Tape" "size" "I" ∈ TT := tt_1 (i := 196) rfl rfl
theorem tw_2_233 : Cond.code yX9_reads cX9_reads 2 (some .boolean) ∈ TT := tt_2 (i := 233) rfl rfl
theorem tw_2_230 : Cond.methodLink RX11 101 yX9_reads ∈ TT := tt_2 (i := 230) rfl rfl
theorem tw_2_231 : Cond.instanceMethod yX9_reads ∈ TT := tt_2 (i := 231) rfl rfl
theorem tw_2_232 : Cond.selects RX9 yX9_reads yX9_reads ∈ TT := tt_2 (i := 232) rfl rfl
theorem tw_2_171 : Cond.fieldLink RX11 19 "DarkGate" "town" "LDarkGate$Town;" ∈ TT := tt_2 (i := 171) rfl rfl
theorem tw_1_202 : Cond.fieldLink RX11 104 "DarkGate$Tape" "draft" "LDarkGate$Town;" ∈ TT := tt_1 (i := 202) rfl rfl
theorem tw_1_75 : Cond.fieldLink RX11 107 "DarkGate$Town" "lines" "I" ∈ TT := tt_1 (i := 75) rfl rfl
theorem tw_1_200 : Cond.fieldLink RX11 113 "DarkGate$Tape" "place" "I" ∈ TT := tt_1 (i := 200) rfl rfl
theorem tw_1_198 : Cond.fieldLink RX11 110 "DarkGate$Tape" "fault" "I" ∈ TT := tt_1 (i := 198) rfl rfl
theorem tw_1_82 : Cond.fieldLink RX11 199 "DarkGate$Town" "lanes" "I" ∈ TT := tt_1 (i := 82) rfl rfl
theorem tw_3_150 : Cond.code yX11_isLane cX11_isLane 2 (some .boolean) ∈ TT := tt_3 (i := 150) rfl rfl
theorem tw_3_147 : Cond.methodLink RX11 116 yX11_isLane ∈ TT := tt_3 (i := 147) rfl rfl
theorem tw_3_149 : Cond.instanceMethod yX11_isLane ∈ TT := tt_3 (i := 149) rfl rfl
theorem tw_p_15 : Cond.selects RX11 yX11_isLane yX11_isLane ∈ TT := tt_p (i := 15) (q := (yX11_isLane, 13)) rfl
theorem tw_1_85 : Cond.fieldLink RX11 120 "DarkGate$Town" "laneFrom" "[I" ∈ TT := tt_1 (i := 85) rfl rfl
theorem tw_1_90 : Cond.fieldLink RX11 124 "DarkGate$Town" "laneTo" "[I" ∈ TT := tt_1 (i := 90) rfl rfl
theorem tw_1_94 : Cond.fieldLink RX11 127 "DarkGate$Town" "takes" "[I" ∈ TT := tt_1 (i := 94) rfl rfl
theorem tw_1_99 : Cond.fieldLink RX11 130 "DarkGate$Town" "muddy" "[I" ∈ TT := tt_1 (i := 99) rfl rfl
theorem tw_1_102 : Cond.fieldLink RX11 133 "DarkGate$Town" "barred" "I" ∈ TT := tt_1 (i := 102) rfl rfl
theorem tw_1_108 : Cond.fieldLink RX11 175 "DarkGate$Town" "gates" "I" ∈ TT := tt_1 (i := 108) rfl rfl
theorem tw_3_158 : Cond.code yX11_isGate cX11_isGate 2 (some .boolean) ∈ TT := tt_3 (i := 158) rfl rfl
theorem tw_3_155 : Cond.methodLink RX11 136 yX11_isGate ∈ TT := tt_3 (i := 155) rfl rfl
theorem tw_3_157 : Cond.instanceMethod yX11_isGate ∈ TT := tt_3 (i := 157) rfl rfl
theorem tw_p_16 : Cond.selects RX11 yX11_isGate yX11_isGate ∈ TT := tt_p (i := 16) (q := (yX11_isGate, 13)) rfl
theorem tw_1_116 : Cond.fieldLink RX11 142 "DarkGate$Town" "gateHolds" "[I" ∈ TT := tt_1 (i := 116) rfl rfl
theorem tw_1_112 : Cond.fieldLink RX11 139 "DarkGate$Town" "gateAt" "[I" ∈ TT := tt_1 (i := 112) rfl rfl
theorem tw_1_124 : Cond.fieldLink RX11 255 "DarkGate$Town" "houses" "I" ∈ TT := tt_1 (i := 124) rfl rfl
theorem tw_3_166 : Cond.code yX11_isHouse cX11_isHouse 2 (some .boolean) ∈ TT := tt_3 (i := 166) rfl rfl
theorem tw_3_163 : Cond.methodLink RX11 145 yX11_isHouse ∈ TT := tt_3 (i := 163) rfl rfl
theorem tw_3_165 : Cond.instanceMethod yX11_isHouse ∈ TT := tt_3 (i := 165) rfl rfl
theorem tw_p_17 : Cond.selects RX11 yX11_isHouse yX11_isHouse ∈ TT := tt_p (i := 17) (q := (yX11_isHouse, 13)) rfl
theorem tw_1_127 : Cond.fieldLink RX11 148 "DarkGate$Town" "houseAt" "[I" ∈ TT := tt_1 (i := 127) rfl rfl
theorem tw_1_131 : Cond.fieldLink RX11 151 "DarkGate$Town" "wants" "[I" ∈ TT := tt_1 (i := 131) rfl rfl
theorem tw_1_135 : Cond.fieldLink RX11 154 "DarkGate$Town" "pays" "[I" ∈ TT := tt_1 (i := 135) rfl rfl
theorem tw_1_140 : Cond.fieldLink RX11 157 "DarkGate$Town" "loads" "[I" ∈ TT := tt_1 (i := 140) rfl rfl
theorem tw_1_73 : Cond.fieldLink RX11 192 "DarkGate$Town" "streets" "I" ∈ TT := tt_1 (i := 73) rfl rfl
theorem tw_3_174 : Cond.code yX11_isStreet cX11_isStreet 2 (some .boolean) ∈ TT := tt_3 (i := 174) rfl rfl
theorem tw_3_171 : Cond.methodLink RX11 160 yX11_isStreet ∈ TT := tt_3 (i := 171) rfl rfl
theorem tw_3_173 : Cond.instanceMethod yX11_isStreet ∈ TT := tt_3 (i := 173) rfl rfl
theorem tw_p_18 : Cond.selects RX11 yX11_isStreet yX11_isStreet ∈ TT := tt_p (i := 18) (q := (yX11_isStreet, 13)) rfl
theorem tw_2_175 : Cond.fieldLink RX11 41 "DarkGate" "dark" "LDarkGate$Dark;" ∈ TT := tt_2 (i := 175) rfl rfl
theorem tw_3_175 : Cond.methodLink RX11 163 yX1_fallNow ∈ TT := tt_3 (i := 175) rfl rfl
theorem tw_2_23 : Cond.fieldLink RX11 167 "DarkGate$Dark" "at" "[I" ∈ TT := tt_2 (i := 23) rfl rfl
theorem tw_3_207 : Cond.methodLink RX11 170 yX11_minuteOrNone ∈ TT := tt_3 (i := 207) rfl rfl
theorem tw_2_176 : Cond.fieldLink RX11 45 "DarkGate" "other" "LDarkGate$Dark;" ∈ TT := tt_2 (i := 176) rfl rfl
theorem tw_3_215 : Cond.methodLink RX11 178 yX1_fallFrom ∈ TT := tt_3 (i := 215) rfl rfl
theorem tw_3_223 : Cond.methodLink RX11 182 yX1_laneInto ∈ TT := tt_3 (i := 223) rfl rfl
theorem tw_3_238 : Cond.code yX11_hasNoTown cX11_hasNoTown 1 (some .boolean) ∈ TT := tt_3 (i := 238) rfl rfl
theorem tw_3_235 : Cond.methodLink RX11 186 yX11_hasNoTown ∈ TT := tt_3 (i := 235) rfl rfl
theorem tw_3_237 : Cond.instanceMethod yX11_hasNoTown ∈ TT := tt_3 (i := 237) rfl rfl
theorem tw_p_23 : Cond.selects RX11 yX11_hasNoTown yX11_hasNoTown ∈ TT := tt_p (i := 23) (q := (yX11_hasNoTown, 13)) rfl
theorem tw_4_1 : Cond.code yX11_isMinute cX11_isMinute 1 (some .boolean) ∈ TT := tt_4 (i := 1) rfl rfl
theorem tw_3_239 : Cond.methodLink RX11 189 yX11_isMinute ∈ TT := tt_3 (i := 239) rfl rfl
theorem tw_4_0 : Cond.static yX11_isMinute ∈ TT := tt_4 (i := 0) rfl rfl
theorem tw_4_6 : Cond.methodLink RX11 195 yX1_latest ∈ TT := tt_4 (i := 6) rfl rfl
theorem tw_4_24 : Cond.code yX11_isOpen cX11_isOpen 2 (some .boolean) ∈ TT := tt_4 (i := 24) rfl rfl
theorem tw_4_21 : Cond.methodLink RX11 202 yX11_isOpen ∈ TT := tt_4 (i := 21) rfl rfl
theorem tw_4_23 : Cond.instanceMethod yX11_isOpen ∈ TT := tt_4 (i := 23) rfl rfl
theorem tw_p_24 : Cond.selects RX11 yX11_isOpen yX11_isOpen ∈ TT := tt_p (i := 24) (q := (yX11_isOpen, 13)) rfl
theorem tw_4_25 : Cond.methodLink RX11 205 yX10_openLanes ∈ TT := tt_4 (i := 25) rfl rfl
theorem tw_4_26 : Cond.methodLink RX11 209 yX1_fall ∈ TT := tt_4 (i := 26) rfl rfl
theorem tw_4_30 : Cond.code yX1_isLike cX1_isLike 4 (some .boolean) ∈ TT := tt_4 (i := 30) rfl rfl
theorem tw_4_27 : Cond.methodLink RX11 212 yX1_isLike ∈ TT := tt_4 (i := 27) rfl rfl
theorem tw_4_28 : Cond.instanceMethod yX1_isLike ∈ TT := tt_4 (i := 28) rfl rfl
theorem tw_4_29 : Cond.selects RX1 yX1_isLike yX1_isLike ∈ TT := tt_4 (i := 29) rfl rfl
theorem tw_4_35 : Cond.methodLink RX11 216 yJ9_min_7cf53 ∈ TT := tt_4 (i := 35) rfl rfl
theorem tw_2_177 : Cond.fieldLink RX11 51 "DarkGate" "owners" "LDarkGate$Owners;" ∈ TT := tt_2 (i := 177) rfl rfl
theorem tw_4_43 : Cond.code yX4_settle cX4_settle 4 none ∈ TT := tt_4 (i := 43) rfl rfl
theorem tw_4_40 : Cond.methodLink RX11 222 yX4_settle ∈ TT := tt_4 (i := 40) rfl rfl
theorem tw_4_41 : Cond.instanceMethod yX4_settle ∈ TT := tt_4 (i := 41) rfl rfl
theorem tw_4_42 : Cond.selects RX4 yX4_settle yX4_settle ∈ TT := tt_4 (i := 42) rfl rfl
theorem tw_1_7 : Cond.initialized RX4 ∈ TT := tt_1 (i := 7) rfl rfl
theorem tw_2_42 : Cond.fieldLink RX11 225 "DarkGate$Owners" "owner" "[I" ∈ TT := tt_2 (i := 42) rfl rfl
theorem tw_1_145 : Cond.fieldLink RX11 228 "DarkGate$Town" "strangers" "I" ∈ TT := tt_1 (i := 145) rfl rfl
theorem tw_4_59 : Cond.code yX4_partedBy cX4_partedBy 5 (some .boolean) ∈ TT := tt_4 (i := 59) rfl rfl
theorem tw_4_56 : Cond.methodLink RX11 231 yX4_partedBy ∈ TT := tt_4 (i := 56) rfl rfl
theorem tw_4_57 : Cond.instanceMethod yX4_partedBy ∈ TT := tt_4 (i := 57) rfl rfl
theorem tw_4_58 : Cond.selects RX4 yX4_partedBy yX4_partedBy ∈ TT := tt_4 (i := 58) rfl rfl
theorem tw_2_44 : Cond.fieldLink RX11 235 "DarkGate$Owners" "strangersAt" "[I" ∈ TT := tt_2 (i := 44) rfl rfl
theorem tw_4_67 : Cond.code yX4_darkAt cX4_darkAt 2 (some .int) ∈ TT := tt_4 (i := 67) rfl rfl
theorem tw_4_64 : Cond.methodLink RX11 238 yX4_darkAt ∈ TT := tt_4 (i := 64) rfl rfl
theorem tw_4_65 : Cond.instanceMethod yX4_darkAt ∈ TT := tt_4 (i := 65) rfl rfl
theorem tw_4_66 : Cond.selects RX4 yX4_darkAt yX4_darkAt ∈ TT := tt_4 (i := 66) rfl rfl
theorem tw_4_72 : Cond.methodLink RX11 241 yX1_gladOf ∈ TT := tt_4 (i := 72) rfl rfl
theorem tw_4_86 : Cond.methodLink RX11 244 yX1_gladOfAll ∈ TT := tt_4 (i := 86) rfl rfl
theorem tw_4_95 : Cond.methodLink RX11 247 yX1_wayTo ∈ TT := tt_4 (i := 95) rfl rfl
theorem tw_4_100 : Cond.methodLink RX11 250 yJ6_bitCount_0f7a4 ∈ TT := tt_4 (i := 100) rfl rfl
theorem tw_4_120 : Cond.code yX11_isFewLanes cX11_isFewLanes 1 (some .boolean) ∈ TT := tt_4 (i := 120) rfl rfl
theorem tw_4_118 : Cond.methodLink RX11 258 yX11_isFewLanes ∈ TT := tt_4 (i := 118) rfl rfl
theorem tw_4_119 : Cond.static yX11_isFewLanes ∈ TT := tt_4 (i := 119) rfl rfl
theorem tw_2_178 : Cond.fieldLink RX11 58 "DarkGate" "plans" "LDarkGate$Plans;" ∈ TT := tt_2 (i := 178) rfl rfl
theorem tw_4_124 : Cond.code yX7_turnLanes cX7_turnLanes 6 none ∈ TT := tt_4 (i := 124) rfl rfl
theorem tw_4_121 : Cond.methodLink RX11 261 yX7_turnLanes ∈ TT := tt_4 (i := 121) rfl rfl
theorem tw_4_122 : Cond.instanceMethod yX7_turnLanes ∈ TT := tt_4 (i := 122) rfl rfl
theorem tw_4_123 : Cond.selects RX7 yX7_turnLanes yX7_turnLanes ∈ TT := tt_4 (i := 123) rfl rfl
theorem tw_2_65 : Cond.fieldLink RX11 264 "DarkGate$Plans" "greatest" "I" ∈ TT := tt_2 (i := 65) rfl rfl
theorem tw_2_67 : Cond.fieldLink RX11 267 "DarkGate$Plans" "found" "I" ∈ TT := tt_2 (i := 67) rfl rfl
theorem tw_4_147 : Cond.code yX11_isCutMinute cX11_isCutMinute 1 (some .boolean) ∈ TT := tt_4 (i := 147) rfl rfl
theorem tw_4_145 : Cond.methodLink RX11 270 yX11_isCutMinute ∈ TT := tt_4 (i := 145) rfl rfl
theorem tw_4_146 : Cond.static yX11_isCutMinute ∈ TT := tt_4 (i := 146) rfl rfl
theorem tw_4_151 : Cond.code yX7_leastCut cX7_leastCut 7 (some .int) ∈ TT := tt_4 (i := 151) rfl rfl
theorem tw_4_148 : Cond.methodLink RX11 273 yX7_leastCut ∈ TT := tt_4 (i := 148) rfl rfl
theorem tw_4_149 : Cond.instanceMethod yX7_leastCut ∈ TT := tt_4 (i := 149) rfl rfl
theorem tw_4_150 : Cond.selects RX7 yX7_leastCut yX7_leastCut ∈ TT := tt_4 (i := 150) rfl rfl
theorem tw_2_179 : Cond.fieldLink RX11 65 "DarkGate" "holders" "LDarkGate$Holders;" ∈ TT := tt_2 (i := 179) rfl rfl
theorem tw_4_169 : Cond.methodLink RX11 277 yX2_learnGate ∈ TT := tt_4 (i := 169) rfl rfl
theorem tw_4_180 : Cond.methodLink RX11 281 yX2_minuteWith ∈ TT := tt_4 (i := 180) rfl rfl
theorem tw_4_192 : Cond.code yX2_gladdestHold cX2_gladdestHold 7 (some .int) ∈ TT := tt_4 (i := 192) rfl rfl
theorem tw_4_189 : Cond.methodLink RX11 285 yX2_gladdestHold ∈ TT := tt_4 (i := 189) rfl rfl
theorem tw_4_190 : Cond.instanceMethod yX2_gladdestHold ∈ TT := tt_4 (i := 190) rfl rfl
theorem tw_4_191 : Cond.selects RX2 yX2_gladdestHold yX2_gladdestHold ∈ TT := tt_4 (i := 191) rfl rfl
theorem tw_4_204 : Cond.methodLink RX11 288 yX2_gladWith ∈ TT := tt_4 (i := 204) rfl rfl
theorem tw_4_213 : Cond.methodLink RX11 394 yX8_isSlot ∈ TT := tt_4 (i := 213) rfl rfl
theorem tw_2_174 : Cond.fieldLink RX11 34 "DarkGate" "rows" "LDarkGate$Rows;" ∈ TT := tt_2 (i := 174) rfl rfl
theorem tw_4_219 : Cond.code yX8_stands cX8_stands 2 (some .boolean) ∈ TT := tt_4 (i := 219) rfl rfl
theorem tw_4_216 : Cond.methodLink RX11 400 yX8_stands ∈ TT := tt_4 (i := 216) rfl rfl
theorem tw_4_217 : Cond.instanceMethod yX8_stands ∈ TT := tt_4 (i := 217) rfl rfl
theorem tw_4_218 : Cond.selects RX8 yX8_stands yX8_stands ∈ TT := tt_4 (i := 218) rfl rfl
theorem tw_4_223 : Cond.code yX8_tellsSights cX8_tellsSights 8 (some .boolean) ∈ TT := tt_4 (i := 223) rfl rfl
theorem tw_4_220 : Cond.methodLink RX11 423 yX8_tellsSights ∈ TT := tt_4 (i := 220) rfl rfl
theorem tw_4_221 : Cond.instanceMethod yX8_tellsSights ∈ TT := tt_4 (i := 221) rfl rfl
theorem tw_4_222 : Cond.selects RX8 yX8_tellsSights yX8_tellsSights ∈ TT := tt_4 (i := 222) rfl rfl
theorem tw_4_212 : Cond.code yX11_refusedSlot cX11_refusedSlot 2 (some .int) ∈ TT := tt_4 (i := 212) rfl rfl
theorem tw_4_209 : Cond.methodLink RX11 291 yX11_refusedSlot ∈ TT := tt_4 (i := 209) rfl rfl
theorem tw_4_211 : Cond.instanceMethod yX11_refusedSlot ∈ TT := tt_4 (i := 211) rfl rfl
theorem tw_p_28 : Cond.selects RX11 yX11_refusedSlot yX11_refusedSlot ∈ TT := tt_p (i := 28) (q := (yX11_refusedSlot, 13)) rfl
theorem tw_4_238 : Cond.code yX2_match cX2_match 6 none ∈ TT := tt_4 (i := 238) rfl rfl
theorem tw_4_235 : Cond.methodLink RX11 294 yX2_match ∈ TT := tt_4 (i := 235) rfl rfl
theorem tw_4_236 : Cond.instanceMethod yX2_match ∈ TT := tt_4 (i := 236) rfl rfl
theorem tw_4_237 : Cond.selects RX2 yX2_match yX2_match ∈ TT := tt_4 (i := 237) rfl rfl
theorem tw_2_97 : Cond.fieldLink RX11 298 "DarkGate$Holders" "fitting" "I" ∈ TT := tt_2 (i := 97) rfl rfl
theorem tw_5_13 : Cond.code yX2_leastFitting cX2_leastFitting 3 (some .int) ∈ TT := tt_5 (i := 13) rfl rfl
theorem tw_5_10 : Cond.methodLink RX11 301 yX2_leastFitting ∈ TT := tt_5 (i := 10) rfl rfl
theorem tw_5_11 : Cond.instanceMethod yX2_leastFitting ∈ TT := tt_5 (i := 11) rfl rfl
theorem tw_5_12 : Cond.selects RX2 yX2_leastFitting yX2_leastFitting ∈ TT := tt_5 (i := 12) rfl rfl
theorem tw_5_25 : Cond.code yX2_tellingStreet cX2_tellingStreet 6 (some .int) ∈ TT := tt_5 (i := 25) rfl rfl
theorem tw_5_22 : Cond.methodLink RX11 304 yX2_tellingStreet ∈ TT := tt_5 (i := 22) rfl rfl
theorem tw_5_23 : Cond.instanceMethod yX2_tellingStreet ∈ TT := tt_5 (i := 23) rfl rfl
theorem tw_5_24 : Cond.selects RX2 yX2_tellingStreet yX2_tellingStreet ∈ TT := tt_5 (i := 24) rfl rfl
theorem tw_5_21 : Cond.code yX11_ask cX11_ask 3 (some .int) ∈ TT := tt_5 (i := 21) rfl rfl
theorem tw_5_36 : Cond.methodLink RX11 307 yX11_ask ∈ TT := tt_5 (i := 36) rfl rfl
theorem tw_5_19 : Cond.instanceMethod yX11_ask ∈ TT := tt_5 (i := 19) rfl rfl
theorem tw_5_20 : Cond.selects RX11 yX11_ask yX11_ask ∈ TT := tt_5 (i := 20) rfl rfl
theorem tw_5_37 : Cond.methodLink RX11 310 yX2_leftAtWorst ∈ TT := tt_5 (i := 37) rfl rfl
theorem tw_5_44 : Cond.code yX11_isGates cX11_isGates 1 (some .boolean) ∈ TT := tt_5 (i := 44) rfl rfl
theorem tw_5_42 : Cond.methodLink RX11 313 yX11_isGates ∈ TT := tt_5 (i := 42) rfl rfl
theorem tw_5_43 : Cond.static yX11_isGates ∈ TT := tt_5 (i := 43) rfl rfl
theorem tw_2_180 : Cond.fieldLink RX11 72 "DarkGate" "sites" "LDarkGate$Places;" ∈ TT := tt_2 (i := 180) rfl rfl
theorem tw_5_48 : Cond.code yX6_search cX6_search 5 none ∈ TT := tt_5 (i := 48) rfl rfl
theorem tw_5_45 : Cond.methodLink RX11 316 yX6_search ∈ TT := tt_5 (i := 45) rfl rfl
theorem tw_5_46 : Cond.instanceMethod yX6_search ∈ TT := tt_5 (i := 46) rfl rfl
theorem tw_5_47 : Cond.selects RX6 yX6_search yX6_search ∈ TT := tt_5 (i := 47) rfl rfl
theorem tw_2_127 : Cond.fieldLink RX11 319 "DarkGate$Places" "soonestFull" "I" ∈ TT := tt_2 (i := 127) rfl rfl
theorem tw_2_129 : Cond.fieldLink RX11 322 "DarkGate$Places" "soonestSet" "I" ∈ TT := tt_2 (i := 129) rfl rfl
theorem tw_2_131 : Cond.fieldLink RX11 325 "DarkGate$Places" "leastSum" "I" ∈ TT := tt_2 (i := 131) rfl rfl
theorem tw_5_74 : Cond.code yX11_isCartSize cX11_isCartSize 1 (some .boolean) ∈ TT := tt_5 (i := 74) rfl rfl
theorem tw_5_72 : Cond.methodLink RX11 328 yX11_isCartSize ∈ TT := tt_5 (i := 72) rfl rfl
theorem tw_5_73 : Cond.static yX11_isCartSize ∈ TT := tt_5 (i := 73) rfl rfl
theorem tw_2_181 : Cond.fieldLink RX11 79 "DarkGate" "packing" "LDarkGate$Packing;" ∈ TT := tt_2 (i := 181) rfl rfl
theorem tw_5_78 : Cond.code yX5_fewest cX5_fewest 4 (some .int) ∈ TT := tt_5 (i := 78) rfl rfl
theorem tw_5_75 : Cond.methodLink RX11 331 yX5_fewest ∈ TT := tt_5 (i := 75) rfl rfl
theorem tw_5_76 : Cond.instanceMethod yX5_fewest ∈ TT := tt_5 (i := 76) rfl rfl
theorem tw_5_77 : Cond.selects RX5 yX5_fewest yX5_fewest ∈ TT := tt_5 (i := 77) rfl rfl
theorem tw_5_92 : Cond.code yX5_housesIn cX5_housesIn 5 (some .int) ∈ TT := tt_5 (i := 92) rfl rfl
theorem tw_5_89 : Cond.methodLink RX11 334 yX5_housesIn ∈ TT := tt_5 (i := 89) rfl rfl
theorem tw_5_90 : Cond.instanceMethod yX5_housesIn ∈ TT := tt_5 (i := 90) rfl rfl
theorem tw_5_91 : Cond.selects RX5 yX5_housesIn yX5_housesIn ∈ TT := tt_5 (i := 91) rfl rfl
theorem tw_5_100 : Cond.code yX10_dearestBut cX10_dearestBut 5 (some .int) ∈ TT := tt_5 (i := 100) rfl rfl
theorem tw_5_97 : Cond.methodLink RX11 337 yX10_dearestBut ∈ TT := tt_5 (i := 97) rfl rfl
theorem tw_5_98 : Cond.instanceMethod yX10_dearestBut ∈ TT := tt_5 (i := 98) rfl rfl
theorem tw_5_99 : Cond.selects RX10 yX10_dearestBut yX10_dearestBut ∈ TT := tt_5 (i := 99) rfl rfl
theorem tw_5_112 : Cond.code yX7_weighClerk cX7_weighClerk 5 none ∈ TT := tt_5 (i := 112) rfl rfl
theorem tw_5_109 : Cond.methodLink RX11 340 yX7_weighClerk ∈ TT := tt_5 (i := 109) rfl rfl
theorem tw_5_110 : Cond.instanceMethod yX7_weighClerk ∈ TT := tt_5 (i := 110) rfl rfl
theorem tw_5_111 : Cond.selects RX7 yX7_weighClerk yX7_weighClerk ∈ TT := tt_5 (i := 111) rfl rfl
theorem tw_5_125 : Cond.code yX7_restingPairs cX7_restingPairs 5 (some .int) ∈ TT := tt_5 (i := 125) rfl rfl
theorem tw_5_122 : Cond.methodLink RX11 343 yX7_restingPairs ∈ TT := tt_5 (i := 122) rfl rfl
theorem tw_5_123 : Cond.instanceMethod yX7_restingPairs ∈ TT := tt_5 (i := 123) rfl rfl
theorem tw_5_124 : Cond.selects RX7 yX7_restingPairs yX7_restingPairs ∈ TT := tt_5 (i := 124) rfl rfl
theorem tw_5_137 : Cond.code yX7_clerksGate cX7_clerksGate 4 (some .int) ∈ TT := tt_5 (i := 137) rfl rfl
theorem tw_5_134 : Cond.methodLink RX11 346 yX7_clerksGate ∈ TT := tt_5 (i := 134) rfl rfl
theorem tw_5_135 : Cond.instanceMethod yX7_clerksGate ∈ TT := tt_5 (i := 135) rfl rfl
theorem tw_5_136 : Cond.selects RX7 yX7_clerksGate yX7_clerksGate ∈ TT := tt_5 (i := 136) rfl rfl
theorem tw_5_142 : Cond.constantLong RX11 349 (-2) ∈ TT := tt_5 (i := 142) rfl rfl
theorem tw_2_182 : Cond.fieldLink RX11 86 "DarkGate" "mud" "LDarkGate$Mud;" ∈ TT := tt_2 (i := 182) rfl rfl
theorem tw_5_146 : Cond.code yX3_weighStreet cX3_weighStreet 6 none ∈ TT := tt_5 (i := 146) rfl rfl
theorem tw_5_143 : Cond.methodLink RX11 351 yX3_weighStreet ∈ TT := tt_5 (i := 143) rfl rfl
theorem tw_5_144 : Cond.instanceMethod yX3_weighStreet ∈ TT := tt_5 (i := 144) rfl rfl
theorem tw_5_145 : Cond.selects RX3 yX3_weighStreet yX3_weighStreet ∈ TT := tt_5 (i := 145) rfl rfl
theorem tw_5_163 : Cond.code yX3_chanceBy cX3_chanceBy 7 (some .long) ∈ TT := tt_5 (i := 163) rfl rfl
theorem tw_5_160 : Cond.methodLink RX11 354 yX3_chanceBy ∈ TT := tt_5 (i := 160) rfl rfl
theorem tw_5_161 : Cond.instanceMethod yX3_chanceBy ∈ TT := tt_5 (i := 161) rfl rfl
theorem tw_5_162 : Cond.selects RX3 yX3_chanceBy yX3_chanceBy ∈ TT := tt_5 (i := 162) rfl rfl
theorem tw_5_174 : Cond.code yX3_leastMinute cX3_leastMinute 5 (some .int) ∈ TT := tt_5 (i := 174) rfl rfl
theorem tw_5_171 : Cond.methodLink RX11 358 yX3_leastMinute ∈ TT := tt_5 (i := 171) rfl rfl
theorem tw_5_172 : Cond.instanceMethod yX3_leastMinute ∈ TT := tt_5 (i := 172) rfl rfl
theorem tw_5_173 : Cond.selects RX3 yX3_leastMinute yX3_leastMinute ∈ TT := tt_5 (i := 173) rfl rfl
theorem tw_1_153 : Cond.fieldLink RX11 361 "DarkGate$Town" "acts" "LDarkGate$Acts;" ∈ TT := tt_1 (i := 153) rfl rfl
theorem tw_1_50 : Cond.fieldLink RX11 365 "DarkGate$Acts" "done" "I" ∈ TT := tt_1 (i := 50) rfl rfl
theorem tw_5_183 : Cond.code yX0_keep cX0_keep 4 none ∈ TT := tt_5 (i := 183) rfl rfl
theorem tw_5_180 : Cond.methodLink RX11 370 yX0_keep ∈ TT := tt_5 (i := 180) rfl rfl
theorem tw_5_181 : Cond.instanceMethod yX0_keep ∈ TT := tt_5 (i := 181) rfl rfl
theorem tw_5_182 : Cond.selects RX0 yX0_keep yX0_keep ∈ TT := tt_5 (i := 182) rfl rfl
theorem tw_5_184 : Cond.methodLink RX11 374 yX10_setBarred ∈ TT := tt_5 (i := 184) rfl rfl
theorem tw_5_196 : Cond.code yX10_takeBack cX10_takeBack 3 none ∈ TT := tt_5 (i := 196) rfl rfl
theorem tw_5_193 : Cond.methodLink RX11 378 yX10_takeBack ∈ TT := tt_5 (i := 193) rfl rfl
theorem tw_5_194 : Cond.instanceMethod yX10_takeBack ∈ TT := tt_5 (i := 194) rfl rfl
theorem tw_5_195 : Cond.selects RX10 yX10_takeBack yX10_takeBack ∈ TT := tt_5 (i := 195) rfl rfl
theorem tw_5_209 : Cond.constant RX11 422 (2000000000) ∈ TT := tt_5 (i := 209) rfl rfl
theorem tw_5_208 : Cond.code yX11_isSeed cX11_isSeed 1 (some .boolean) ∈ TT := tt_5 (i := 208) rfl rfl
theorem tw_5_206 : Cond.methodLink RX11 381 yX11_isSeed ∈ TT := tt_5 (i := 206) rfl rfl
theorem tw_5_207 : Cond.static yX11_isSeed ∈ TT := tt_5 (i := 207) rfl rfl
theorem tw_5_212 : Cond.code yX3_evening cX3_evening 7 (some .int) ∈ TT := tt_5 (i := 212) rfl rfl
theorem tw_5_210 : Cond.methodLink RX11 384 yX3_evening ∈ TT := tt_5 (i := 210) rfl rfl
theorem tw_5_211 : Cond.static yX3_evening ∈ TT := tt_5 (i := 211) rfl rfl
theorem tw_5_232 : Cond.code yX8_standing cX8_standing 1 (some .int) ∈ TT := tt_5 (i := 232) rfl rfl
theorem tw_5_229 : Cond.methodLink RX11 388 yX8_standing ∈ TT := tt_5 (i := 229) rfl rfl
theorem tw_5_230 : Cond.instanceMethod yX8_standing ∈ TT := tt_5 (i := 230) rfl rfl
theorem tw_5_231 : Cond.selects RX8 yX8_standing yX8_standing ∈ TT := tt_5 (i := 231) rfl rfl
theorem tw_2_172 : Cond.fieldLink RX11 23 "DarkGate" "images" "[LDarkGate$Town;" ∈ TT := tt_2 (i := 172) rfl rfl
theorem tw_6_1 : Cond.code yX10_become cX10_become 2 none ∈ TT := tt_6 (i := 1) rfl rfl
theorem tw_5_238 : Cond.methodLink RX11 391 yX10_become ∈ TT := tt_5 (i := 238) rfl rfl
theorem tw_5_239 : Cond.instanceMethod yX10_become ∈ TT := tt_5 (i := 239) rfl rfl
theorem tw_6_0 : Cond.selects RX10 yX10_become yX10_become ∈ TT := tt_6 (i := 0) rfl rfl
theorem tw_2_173 : Cond.fieldLink RX11 27 "DarkGate" "imaged" "I" ∈ TT := tt_2 (i := 173) rfl rfl
theorem tw_6_19 : Cond.code yX8_make cX8_make 5 none ∈ TT := tt_6 (i := 19) rfl rfl
theorem tw_6_16 : Cond.methodLink RX11 397 yX8_make ∈ TT := tt_6 (i := 16) rfl rfl
theorem tw_6_17 : Cond.instanceMethod yX8_make ∈ TT := tt_6 (i := 17) rfl rfl
theorem tw_6_18 : Cond.selects RX8 yX8_make yX8_make ∈ TT := tt_6 (i := 18) rfl rfl
theorem tw_6_24 : Cond.methodLink RX11 403 yX8_length ∈ TT := tt_6 (i := 24) rfl rfl
theorem tw_6_28 : Cond.code yX8_put cX8_put 8 none ∈ TT := tt_6 (i := 28) rfl rfl
theorem tw_6_25 : Cond.methodLink RX11 406 yX8_put ∈ TT := tt_6 (i := 25) rfl rfl
theorem tw_6_26 : Cond.instanceMethod yX8_put ∈ TT := tt_6 (i := 26) rfl rfl
theorem tw_6_27 : Cond.selects RX8 yX8_put yX8_put ∈ TT := tt_6 (i := 27) rfl rfl
theorem tw_6_36 : Cond.code yX8_areAlike cX8_areAlike 3 (some .boolean) ∈ TT := tt_6 (i := 36) rfl rfl
theorem tw_6_33 : Cond.methodLink RX11 410 yX8_areAlike ∈ TT := tt_6 (i := 33) rfl rfl
theorem tw_6_34 : Cond.instanceMethod yX8_areAlike ∈ TT := tt_6 (i := 34) rfl rfl
theorem tw_6_35 : Cond.selects RX8 yX8_areAlike yX8_areAlike ∈ TT := tt_6 (i := 35) rfl rfl
theorem tw_6_37 : Cond.methodLink RX11 414 yX8_reaches ∈ TT := tt_6 (i := 37) rfl rfl
theorem tw_6_44 : Cond.code yX8_copyPart cX8_copyPart 6 none ∈ TT := tt_6 (i := 44) rfl rfl
theorem tw_6_41 : Cond.methodLink RX11 418 yX8_copyPart ∈ TT := tt_6 (i := 41) rfl rfl
theorem tw_6_42 : Cond.instanceMethod yX8_copyPart ∈ TT := tt_6 (i := 42) rfl rfl
theorem tw_6_43 : Cond.selects RX8 yX8_copyPart yX8_copyPart ∈ TT := tt_6 (i := 43) rfl rfl
theorem tw_1_47 : Cond.methodLink RX0 3 objectInit ∈ TT := tt_1 (i := 47) rfl rfl
theorem tw_1_28 : Cond.instanceMethod objectInit ∈ TT := tt_1 (i := 28) rfl rfl
theorem tw_1_29 : Cond.code objectInit ⟨#[0xb1]⟩ 1 none ∈ TT := tt_1 (i := 29) rfl rfl
theorem tw_1_66 : Cond.arrayClass .int ∈ TT := tt_1 (i := 66) rfl rfl
theorem tw_2_16 : Cond.methodLink RX1 3 objectInit ∈ TT := tt_2 (i := 16) rfl rfl
theorem tw_1_41 : Cond.methodLink RX10 3 objectInit ∈ TT := tt_1 (i := 41) rfl rfl
theorem tw_1_42 : Cond.classLink RX10 70 RX0 ∈ TT := tt_1 (i := 42) rfl rfl
theorem tw_1_43 : Cond.instantiable RX0 4 ∈ TT := tt_1 (i := 43) rfl rfl
theorem tw_1_46 : Cond.code yX0_init cX0_init 1 none ∈ TT := tt_1 (i := 46) rfl rfl
theorem tw_1_45 : Cond.instanceMethod yX0_init ∈ TT := tt_1 (i := 45) rfl rfl
theorem tw_1_35 : Cond.methodLink RX9 3 objectInit ∈ TT := tt_1 (i := 35) rfl rfl
theorem tw_1_36 : Cond.classLink RX9 21 RX10 ∈ TT := tt_1 (i := 36) rfl rfl
theorem tw_1_37 : Cond.instantiable RX10 20 ∈ TT := tt_1 (i := 37) rfl rfl
theorem tw_1_40 : Cond.code yX10_init cX10_init 1 none ∈ TT := tt_1 (i := 40) rfl rfl
theorem tw_1_39 : Cond.instanceMethod yX10_init ∈ TT := tt_1 (i := 39) rfl rfl
theorem tw_1_227 : Cond.arrayClass .byte ∈ TT := tt_1 (i := 227) rfl rfl
theorem tw_1_236 : Cond.methodLink RX8 3 objectInit ∈ TT := tt_1 (i := 236) rfl rfl
theorem tw_2_10 : Cond.arrayClass .long ∈ TT := tt_2 (i := 10) rfl rfl
theorem tw_2_38 : Cond.methodLink RX4 3 objectInit ∈ TT := tt_2 (i := 38) rfl rfl
theorem tw_2_39 : Cond.classLink RX4 18 RX1 ∈ TT := tt_2 (i := 39) rfl rfl
theorem tw_2_12 : Cond.instantiable RX1 3 ∈ TT := tt_2 (i := 12) rfl rfl
theorem tw_2_15 : Cond.code yX1_init cX1_init 1 none ∈ TT := tt_2 (i := 15) rfl rfl
theorem tw_2_14 : Cond.instanceMethod yX1_init ∈ TT := tt_2 (i := 14) rfl rfl
theorem tw_2_61 : Cond.methodLink RX7 3 objectInit ∈ TT := tt_2 (i := 61) rfl rfl
theorem tw_2_62 : Cond.classLink RX7 18 RX1 ∈ TT := tt_2 (i := 62) rfl rfl
theorem tw_2_93 : Cond.methodLink RX2 3 objectInit ∈ TT := tt_2 (i := 93) rfl rfl
theorem tw_2_94 : Cond.classLink RX2 15 RX1 ∈ TT := tt_2 (i := 94) rfl rfl
theorem tw_2_116 : Cond.arrayClass .boolean ∈ TT := tt_2 (i := 116) rfl rfl
theorem tw_2_122 : Cond.methodLink RX6 3 objectInit ∈ TT := tt_2 (i := 122) rfl rfl
theorem tw_2_124 : Cond.classLink RX6 22 RX1 ∈ TT := tt_2 (i := 124) rfl rfl
theorem tw_2_147 : Cond.methodLink RX5 3 objectInit ∈ TT := tt_2 (i := 147) rfl rfl
theorem tw_2_160 : Cond.methodLink RX3 3 objectInit ∈ TT := tt_2 (i := 160) rfl rfl
theorem tw_2_161 : Cond.classLink RX3 9 RX1 ∈ TT := tt_2 (i := 161) rfl rfl
theorem tw_1_27 : Cond.methodLink RX11 3 objectInit ∈ TT := tt_1 (i := 27) rfl rfl
theorem tw_1_30 : Cond.classLink RX11 9 RX9 ∈ TT := tt_1 (i := 30) rfl rfl
theorem tw_1_31 : Cond.instantiable RX9 9 ∈ TT := tt_1 (i := 31) rfl rfl
theorem tw_1_34 : Cond.code yX9_init cX9_init 1 none ∈ TT := tt_1 (i := 34) rfl rfl
theorem tw_1_33 : Cond.instanceMethod yX9_init ∈ TT := tt_1 (i := 33) rfl rfl
theorem tw_1_228 : Cond.classLink RX11 16 RX10 ∈ TT := tt_1 (i := 228) rfl rfl
theorem tw_1_231 : Cond.classLink RX11 31 RX8 ∈ TT := tt_1 (i := 231) rfl rfl
theorem tw_1_232 : Cond.instantiable RX8 4 ∈ TT := tt_1 (i := 232) rfl rfl
theorem tw_1_235 : Cond.code yX8_init cX8_init 1 none ∈ TT := tt_1 (i := 235) rfl rfl
theorem tw_1_234 : Cond.instanceMethod yX8_init ∈ TT := tt_1 (i := 234) rfl rfl
theorem tw_2_11 : Cond.classLink RX11 38 RX1 ∈ TT := tt_2 (i := 11) rfl rfl
theorem tw_2_33 : Cond.classLink RX11 48 RX4 ∈ TT := tt_2 (i := 33) rfl rfl
theorem tw_2_34 : Cond.instantiable RX4 4 ∈ TT := tt_2 (i := 34) rfl rfl
theorem tw_2_37 : Cond.code yX4_init cX4_init 1 none ∈ TT := tt_2 (i := 37) rfl rfl
theorem tw_2_36 : Cond.instanceMethod yX4_init ∈ TT := tt_2 (i := 36) rfl rfl
theorem tw_2_56 : Cond.classLink RX11 55 RX7 ∈ TT := tt_2 (i := 56) rfl rfl
theorem tw_2_57 : Cond.instantiable RX7 7 ∈ TT := tt_2 (i := 57) rfl rfl
theorem tw_2_60 : Cond.code yX7_init cX7_init 1 none ∈ TT := tt_2 (i := 60) rfl rfl
theorem tw_2_59 : Cond.instanceMethod yX7_init ∈ TT := tt_2 (i := 59) rfl rfl
theorem tw_2_88 : Cond.classLink RX11 62 RX2 ∈ TT := tt_2 (i := 88) rfl rfl
theorem tw_2_89 : Cond.instantiable RX2 6 ∈ TT := tt_2 (i := 89) rfl rfl
theorem tw_2_92 : Cond.code yX2_init cX2_init 1 none ∈ TT := tt_2 (i := 92) rfl rfl
theorem tw_2_91 : Cond.instanceMethod yX2_init ∈ TT := tt_2 (i := 91) rfl rfl
theorem tw_2_117 : Cond.classLink RX11 69 RX6 ∈ TT := tt_2 (i := 117) rfl rfl
theorem tw_2_118 : Cond.instantiable RX6 4 ∈ TT := tt_2 (i := 118) rfl rfl
theorem tw_2_121 : Cond.code yX6_init cX6_init 1 none ∈ TT := tt_2 (i := 121) rfl rfl
theorem tw_2_120 : Cond.instanceMethod yX6_init ∈ TT := tt_2 (i := 120) rfl rfl
theorem tw_2_142 : Cond.classLink RX11 76 RX5 ∈ TT := tt_2 (i := 142) rfl rfl
theorem tw_2_143 : Cond.instantiable RX5 2 ∈ TT := tt_2 (i := 143) rfl rfl
theorem tw_2_146 : Cond.code yX5_init cX5_init 1 none ∈ TT := tt_2 (i := 146) rfl rfl
theorem tw_2_145 : Cond.instanceMethod yX5_init ∈ TT := tt_2 (i := 145) rfl rfl
theorem tw_2_155 : Cond.classLink RX11 83 RX3 ∈ TT := tt_2 (i := 155) rfl rfl
theorem tw_2_156 : Cond.instantiable RX3 2 ∈ TT := tt_2 (i := 156) rfl rfl
theorem tw_2_159 : Cond.code yX3_init cX3_init 1 none ∈ TT := tt_2 (i := 159) rfl rfl
theorem tw_2_158 : Cond.instanceMethod yX3_init ∈ TT := tt_2 (i := 158) rfl rfl
theorem tw_6_52 : Cond.methodLink RX12 1 objectInit ∈ TT := tt_6 (i := 52) rfl rfl
theorem iT_X0 : ∀ w ∈ u_ws RX0 TX0 4, w ∈ TT := by
  intro w hw
  obtain ⟨j, hj, rfl⟩ := List.mem_map.mp hw
  have hj := List.mem_range.mp hj
  match j, hj with
  | 0, _ => exact tw_1_57
  | 1, _ => exact tw_1_59
  | 2, _ => exact tw_1_61
  | 3, _ => exact tw_1_63
  | j + 4, h => exact absurd h (by omega)
theorem iT_X1 : ∀ w ∈ u_ws RX1 TX1 3, w ∈ TT := by
  intro w hw
  obtain ⟨j, hj, rfl⟩ := List.mem_map.mp hw
  have hj := List.mem_range.mp hj
  match j, hj with
  | 0, _ => exact tw_2_26
  | 1, _ => exact tw_2_28
  | 2, _ => exact tw_2_30
  | j + 3, h => exact absurd h (by omega)
theorem iT_X2 : ∀ w ∈ u_ws RX2 TX2 6, w ∈ TT := by
  intro w hw
  obtain ⟨j, hj, rfl⟩ := List.mem_map.mp hw
  have hj := List.mem_range.mp hj
  match j, hj with
  | 0, _ => exact tw_2_103
  | 1, _ => exact tw_2_105
  | 2, _ => exact tw_2_107
  | 3, _ => exact tw_2_109
  | 4, _ => exact tw_2_111
  | 5, _ => exact tw_2_113
  | j + 6, h => exact absurd h (by omega)
theorem iT_X3 : ∀ w ∈ u_ws RX3 TX3 2, w ∈ TT := by
  intro w hw
  obtain ⟨j, hj, rfl⟩ := List.mem_map.mp hw
  have hj := List.mem_range.mp hj
  match j, hj with
  | 0, _ => exact tw_2_165
  | 1, _ => exact tw_2_167
  | j + 2, h => exact absurd h (by omega)
theorem iT_X4 : ∀ w ∈ u_ws RX4 TX4 4, w ∈ TT := by
  intro w hw
  obtain ⟨j, hj, rfl⟩ := List.mem_map.mp hw
  have hj := List.mem_range.mp hj
  match j, hj with
  | 0, _ => exact tw_2_47
  | 1, _ => exact tw_2_49
  | 2, _ => exact tw_2_51
  | 3, _ => exact tw_2_53
  | j + 4, h => exact absurd h (by omega)
theorem iT_X5 : ∀ w ∈ u_ws RX5 TX5 2, w ∈ TT := by
  intro w hw
  obtain ⟨j, hj, rfl⟩ := List.mem_map.mp hw
  have hj := List.mem_range.mp hj
  match j, hj with
  | 0, _ => exact tw_2_150
  | 1, _ => exact tw_2_152
  | j + 2, h => exact absurd h (by omega)
theorem iT_X6 : ∀ w ∈ u_ws RX6 TX6 4, w ∈ TT := by
  intro w hw
  obtain ⟨j, hj, rfl⟩ := List.mem_map.mp hw
  have hj := List.mem_range.mp hj
  match j, hj with
  | 0, _ => exact tw_2_133
  | 1, _ => exact tw_2_135
  | 2, _ => exact tw_2_137
  | 3, _ => exact tw_2_139
  | j + 4, h => exact absurd h (by omega)
theorem iT_X7 : ∀ w ∈ u_ws RX7 TX7 7, w ∈ TT := by
  intro w hw
  obtain ⟨j, hj, rfl⟩ := List.mem_map.mp hw
  have hj := List.mem_range.mp hj
  match j, hj with
  | 0, _ => exact tw_2_73
  | 1, _ => exact tw_2_75
  | 2, _ => exact tw_2_77
  | 3, _ => exact tw_2_79
  | 4, _ => exact tw_2_81
  | 5, _ => exact tw_2_83
  | 6, _ => exact tw_2_85
  | j + 7, h => exact absurd h (by omega)
theorem iT_X8 : ∀ w ∈ u_ws RX8 TX8 4, w ∈ TT := by
  intro w hw
  obtain ⟨j, hj, rfl⟩ := List.mem_map.mp hw
  have hj := List.mem_range.mp hj
  match j, hj with
  | 0, _ => exact tw_2_1
  | 1, _ => exact tw_2_3
  | 2, _ => exact tw_2_5
  | 3, _ => exact tw_2_7
  | j + 4, h => exact absurd h (by omega)
theorem iT_X9 : ∀ w ∈ u_ws RX9 TX9 9, w ∈ TT := by
  intro w hw
  obtain ⟨j, hj, rfl⟩ := List.mem_map.mp hw
  have hj := List.mem_range.mp hj
  match j, hj with
  | 0, _ => exact tw_1_208
  | 1, _ => exact tw_1_210
  | 2, _ => exact tw_1_212
  | 3, _ => exact tw_1_214
  | 4, _ => exact tw_1_216
  | 5, _ => exact tw_1_218
  | 6, _ => exact tw_1_220
  | 7, _ => exact tw_1_222
  | 8, _ => exact tw_1_224
  | j + 9, h => exact absurd h (by omega)
theorem iT_X10 : ∀ w ∈ u_ws RX10 TX10 20, w ∈ TT := by
  intro w hw
  obtain ⟨j, hj, rfl⟩ := List.mem_map.mp hw
  have hj := List.mem_range.mp hj
  match j, hj with
  | 0, _ => exact tw_1_154
  | 1, _ => exact tw_1_156
  | 2, _ => exact tw_1_158
  | 3, _ => exact tw_1_160
  | 4, _ => exact tw_1_162
  | 5, _ => exact tw_1_164
  | 6, _ => exact tw_1_166
  | 7, _ => exact tw_1_168
  | 8, _ => exact tw_1_170
  | 9, _ => exact tw_1_172
  | 10, _ => exact tw_1_174
  | 11, _ => exact tw_1_176
  | 12, _ => exact tw_1_178
  | 13, _ => exact tw_1_180
  | 14, _ => exact tw_1_182
  | 15, _ => exact tw_1_184
  | 16, _ => exact tw_1_186
  | 17, _ => exact tw_1_188
  | 18, _ => exact tw_1_190
  | 19, _ => exact tw_1_192
  | j + 20, h => exact absurd h (by omega)
theorem iT_X11 : ∀ w ∈ u_ws RX11 TX11 13, w ∈ TT := by
  intro w hw
  obtain ⟨j, hj, rfl⟩ := List.mem_map.mp hw
  have hj := List.mem_range.mp hj
  match j, hj with
  | 0, _ => exact tw_2_183
  | 1, _ => exact tw_2_185
  | 2, _ => exact tw_2_187
  | 3, _ => exact tw_2_189
  | 4, _ => exact tw_2_191
  | 5, _ => exact tw_2_193
  | 6, _ => exact tw_2_195
  | 7, _ => exact tw_2_197
  | 8, _ => exact tw_2_199
  | 9, _ => exact tw_2_201
  | 10, _ => exact tw_2_203
  | 11, _ => exact tw_2_205
  | 12, _ => exact tw_2_207
  | j + 13, h => exact absurd h (by omega)
theorem iT_X12 : ∀ w ∈ u_ws RX12 TX12 42, w ∈ TT := by
  intro w hw
  obtain ⟨j, hj, rfl⟩ := List.mem_map.mp hw
  have hj := List.mem_range.mp hj
  match j, hj with
  | 0, _ => exact tw_6_95
  | 1, _ => exact tw_6_97
  | 2, _ => exact tw_6_99
  | 3, _ => exact tw_6_101
  | 4, _ => exact tw_6_103
  | 5, _ => exact tw_6_105
  | 6, _ => exact tw_6_107
  | 7, _ => exact tw_6_109
  | 8, _ => exact tw_6_111
  | 9, _ => exact tw_6_113
  | 10, _ => exact tw_6_115
  | 11, _ => exact tw_6_117
  | 12, _ => exact tw_6_119
  | 13, _ => exact tw_6_121
  | 14, _ => exact tw_6_123
  | 15, _ => exact tw_6_125
  | 16, _ => exact tw_6_127
  | 17, _ => exact tw_6_129
  | 18, _ => exact tw_6_131
  | 19, _ => exact tw_6_133
  | 20, _ => exact tw_6_135
  | 21, _ => exact tw_6_137
  | 22, _ => exact tw_6_139
  | 23, _ => exact tw_6_141
  | 24, _ => exact tw_6_143
  | 25, _ => exact tw_6_145
  | 26, _ => exact tw_6_147
  | 27, _ => exact tw_6_149
  | 28, _ => exact tw_6_151
  | 29, _ => exact tw_6_153
  | 30, _ => exact tw_6_155
  | 31, _ => exact tw_6_157
  | 32, _ => exact tw_6_159
  | 33, _ => exact tw_6_161
  | 34, _ => exact tw_6_163
  | 35, _ => exact tw_6_165
  | 36, _ => exact tw_6_167
  | 37, _ => exact tw_6_169
  | 38, _ => exact tw_6_171
  | 39, _ => exact tw_6_173
  | 40, _ => exact tw_6_175
  | 41, _ => exact tw_6_177
  | j + 42, h => exact absurd h (by omega)
theorem hdS_X12_in : yX12_in.cls ≠ "java/lang/invoke/MethodHandle" ∧ yX12_in.cls ≠ "java/lang/invoke/VarHandle" ∧ (parseMethodDescriptor yX12_in.desc).map (fun d => d.parameters.length) = some 3 := by decide +kernel
theorem hdS_X12_isSlot : yX12_isSlot.cls ≠ "java/lang/invoke/MethodHandle" ∧ yX12_isSlot.cls ≠ "java/lang/invoke/VarHandle" ∧ (parseMethodDescriptor yX12_isSlot.desc).map (fun d => d.parameters.length) = some 1 := by decide +kernel
theorem hdS_X12_cut : yX12_cut.cls ≠ "java/lang/invoke/MethodHandle" ∧ yX12_cut.cls ≠ "java/lang/invoke/VarHandle" ∧ (parseMethodDescriptor yX12_cut.desc).map (fun d => d.parameters.length) = some 2 := by decide +kernel
theorem hdV_X12_four : yX12_four.cls = RX12 ∧ yX12_four.cls ≠ "java/lang/invoke/MethodHandle" ∧ yX12_four.cls ≠ "java/lang/invoke/VarHandle" ∧ (parseMethodDescriptor yX12_four.desc).map (fun d => d.parameters.length) = some 1 := by decide +kernel
theorem hdV_X12_isByte : yX12_isByte.cls = RX12 ∧ yX12_isByte.cls ≠ "java/lang/invoke/MethodHandle" ∧ yX12_isByte.cls ≠ "java/lang/invoke/VarHandle" ∧ (parseMethodDescriptor yX12_isByte.desc).map (fun d => d.parameters.length) = some 3 := by decide +kernel
theorem hdV_X12_is : yX12_is.cls = RX12 ∧ yX12_is.cls ≠ "java/lang/invoke/MethodHandle" ∧ yX12_is.cls ≠ "java/lang/invoke/VarHandle" ∧ (parseMethodDescriptor yX12_is.desc).map (fun d => d.parameters.length) = some 1 := by decide +kernel
theorem hdV_X12_next : yX12_next.cls = RX12 ∧ yX12_next.cls ≠ "java/lang/invoke/MethodHandle" ∧ yX12_next.cls ≠ "java/lang/invoke/VarHandle" ∧ (parseMethodDescriptor yX12_next.desc).map (fun d => d.parameters.length) = some 0 := by decide +kernel
theorem hdV_X12_takes : yX12_takes.cls = RX12 ∧ yX12_takes.cls ≠ "java/lang/invoke/MethodHandle" ∧ yX12_takes.cls ≠ "java/lang/invoke/VarHandle" ∧ (parseMethodDescriptor yX12_takes.desc).map (fun d => d.parameters.length) = some 1 := by decide +kernel
theorem hdV_X12_fails : yX12_fails.cls = RX12 ∧ yX12_fails.cls ≠ "java/lang/invoke/MethodHandle" ∧ yX12_fails.cls ≠ "java/lang/invoke/VarHandle" ∧ (parseMethodDescriptor yX12_fails.desc).map (fun d => d.parameters.length) = some 1 := by decide +kernel
theorem hdV_X12_asks : yX12_asks.cls = RX12 ∧ yX12_asks.cls ≠ "java/lang/invoke/MethodHandle" ∧ yX12_asks.cls ≠ "java/lang/invoke/VarHandle" ∧ (parseMethodDescriptor yX12_asks.desc).map (fun d => d.parameters.length) = some 1 := by decide +kernel
theorem hdV_X12_number : yX12_number.cls = RX12 ∧ yX12_number.cls ≠ "java/lang/invoke/MethodHandle" ∧ yX12_number.cls ≠ "java/lang/invoke/VarHandle" ∧ (parseMethodDescriptor yX12_number.desc).map (fun d => d.parameters.length) = some 2 := by decide +kernel
theorem hdV_X12_hasRead : yX12_hasRead.cls = RX12 ∧ yX12_hasRead.cls ≠ "java/lang/invoke/MethodHandle" ∧ yX12_hasRead.cls ≠ "java/lang/invoke/VarHandle" ∧ (parseMethodDescriptor yX12_hasRead.desc).map (fun d => d.parameters.length) = some 1 := by decide +kernel
theorem hdV_X12_streetHere : yX12_streetHere.cls = RX12 ∧ yX12_streetHere.cls ≠ "java/lang/invoke/MethodHandle" ∧ yX12_streetHere.cls ≠ "java/lang/invoke/VarHandle" ∧ (parseMethodDescriptor yX12_streetHere.desc).map (fun d => d.parameters.length) = some 0 := by decide +kernel
theorem hdV_X12_number_ : yX12_number_.cls = RX12 ∧ yX12_number_.cls ≠ "java/lang/invoke/MethodHandle" ∧ yX12_number_.cls ≠ "java/lang/invoke/VarHandle" ∧ (parseMethodDescriptor yX12_number_.desc).map (fun d => d.parameters.length) = some 3 := by decide +kernel
theorem hdV_X12_tells : yX12_tells.cls = RX12 ∧ yX12_tells.cls ≠ "java/lang/invoke/MethodHandle" ∧ yX12_tells.cls ≠ "java/lang/invoke/VarHandle" ∧ (parseMethodDescriptor yX12_tells.desc).map (fun d => d.parameters.length) = some 2 := by decide +kernel
theorem hdV_X12_streetAt : yX12_streetAt.cls = RX12 ∧ yX12_streetAt.cls ≠ "java/lang/invoke/MethodHandle" ∧ yX12_streetAt.cls ≠ "java/lang/invoke/VarHandle" ∧ (parseMethodDescriptor yX12_streetAt.desc).map (fun d => d.parameters.length) = some 0 := by decide +kernel
theorem hdV_X12_isRoom : yX12_isRoom.cls = RX12 ∧ yX12_isRoom.cls ≠ "java/lang/invoke/MethodHandle" ∧ yX12_isRoom.cls ≠ "java/lang/invoke/VarHandle" ∧ (parseMethodDescriptor yX12_isRoom.desc).map (fun d => d.parameters.length) = some 3 := by decide +kernel
theorem hdV_X12_houseLine : yX12_houseLine.cls = RX12 ∧ yX12_houseLine.cls ≠ "java/lang/invoke/MethodHandle" ∧ yX12_houseLine.cls ≠ "java/lang/invoke/VarHandle" ∧ (parseMethodDescriptor yX12_houseLine.desc).map (fun d => d.parameters.length) = some 0 := by decide +kernel
theorem hdV_X12_laneLine : yX12_laneLine.cls = RX12 ∧ yX12_laneLine.cls ≠ "java/lang/invoke/MethodHandle" ∧ yX12_laneLine.cls ≠ "java/lang/invoke/VarHandle" ∧ (parseMethodDescriptor yX12_laneLine.desc).map (fun d => d.parameters.length) = some 0 := by decide +kernel
theorem hdS_X12_copyRow : yX12_copyRow.cls ≠ "java/lang/invoke/MethodHandle" ∧ yX12_copyRow.cls ≠ "java/lang/invoke/VarHandle" ∧ (parseMethodDescriptor yX12_copyRow.desc).map (fun d => d.parameters.length) = some 4 := by decide +kernel
theorem hdV_X12_clears : yX12_clears.cls = RX12 ∧ yX12_clears.cls ≠ "java/lang/invoke/MethodHandle" ∧ yX12_clears.cls ≠ "java/lang/invoke/VarHandle" ∧ (parseMethodDescriptor yX12_clears.desc).map (fun d => d.parameters.length) = some 0 := by decide +kernel
theorem hdV_X12_begins : yX12_begins.cls = RX12 ∧ yX12_begins.cls ≠ "java/lang/invoke/MethodHandle" ∧ yX12_begins.cls ≠ "java/lang/invoke/VarHandle" ∧ (parseMethodDescriptor yX12_begins.desc).map (fun d => d.parameters.length) = some 0 := by decide +kernel
theorem hdV_X12_isGood : yX12_isGood.cls = RX12 ∧ yX12_isGood.cls ≠ "java/lang/invoke/MethodHandle" ∧ yX12_isGood.cls ≠ "java/lang/invoke/VarHandle" ∧ (parseMethodDescriptor yX12_isGood.desc).map (fun d => d.parameters.length) = some 0 := by decide +kernel
theorem hdV_X12_isOver : yX12_isOver.cls = RX12 ∧ yX12_isOver.cls ≠ "java/lang/invoke/MethodHandle" ∧ yX12_isOver.cls ≠ "java/lang/invoke/VarHandle" ∧ (parseMethodDescriptor yX12_isOver.desc).map (fun d => d.parameters.length) = some 0 := by decide +kernel
theorem hdV_X12_copyTown : yX12_copyTown.cls = RX12 ∧ yX12_copyTown.cls ≠ "java/lang/invoke/MethodHandle" ∧ yX12_copyTown.cls ≠ "java/lang/invoke/VarHandle" ∧ (parseMethodDescriptor yX12_copyTown.desc).map (fun d => d.parameters.length) = some 2 := by decide +kernel
theorem hdV_X12_line : yX12_line.cls = RX12 ∧ yX12_line.cls ≠ "java/lang/invoke/MethodHandle" ∧ yX12_line.cls ≠ "java/lang/invoke/VarHandle" ∧ (parseMethodDescriptor yX12_line.desc).map (fun d => d.parameters.length) = some 0 := by decide +kernel
theorem hdV_X12_ends : yX12_ends.cls = RX12 ∧ yX12_ends.cls ≠ "java/lang/invoke/MethodHandle" ∧ yX12_ends.cls ≠ "java/lang/invoke/VarHandle" ∧ (parseMethodDescriptor yX12_ends.desc).map (fun d => d.parameters.length) = some 0 := by decide +kernel
theorem hdS_X12_isBit : yX12_isBit.cls ≠ "java/lang/invoke/MethodHandle" ∧ yX12_isBit.cls ≠ "java/lang/invoke/VarHandle" ∧ (parseMethodDescriptor yX12_isBit.desc).map (fun d => d.parameters.length) = some 2 := by decide +kernel
theorem hdV_X12_takes_ : yX12_takes_.cls = RX12 ∧ yX12_takes_.cls ≠ "java/lang/invoke/MethodHandle" ∧ yX12_takes_.cls ≠ "java/lang/invoke/VarHandle" ∧ (parseMethodDescriptor yX12_takes_.desc).map (fun d => d.parameters.length) = some 2 := by decide +kernel
theorem hdV_X12_never : yX12_never.cls = RX12 ∧ yX12_never.cls ≠ "java/lang/invoke/MethodHandle" ∧ yX12_never.cls ≠ "java/lang/invoke/VarHandle" ∧ (parseMethodDescriptor yX12_never.desc).map (fun d => d.parameters.length) = some 0 := by decide +kernel
theorem hdV_X12_lowers : yX12_lowers.cls = RX12 ∧ yX12_lowers.cls ≠ "java/lang/invoke/MethodHandle" ∧ yX12_lowers.cls ≠ "java/lang/invoke/VarHandle" ∧ (parseMethodDescriptor yX12_lowers.desc).map (fun d => d.parameters.length) = some 2 := by decide +kernel
theorem hdV_X12_begins_ : yX12_begins_.cls = RX12 ∧ yX12_begins_.cls ≠ "java/lang/invoke/MethodHandle" ∧ yX12_begins_.cls ≠ "java/lang/invoke/VarHandle" ∧ (parseMethodDescriptor yX12_begins_.desc).map (fun d => d.parameters.length) = some 2 := by decide +kernel
theorem hdV_X12_lays : yX12_lays.cls = RX12 ∧ yX12_lays.cls ≠ "java/lang/invoke/MethodHandle" ∧ yX12_lays.cls ≠ "java/lang/invoke/VarHandle" ∧ (parseMethodDescriptor yX12_lays.desc).map (fun d => d.parameters.length) = some 0 := by decide +kernel
theorem hdV_X12_darkens : yX12_darkens.cls = RX12 ∧ yX12_darkens.cls ≠ "java/lang/invoke/MethodHandle" ∧ yX12_darkens.cls ≠ "java/lang/invoke/VarHandle" ∧ (parseMethodDescriptor yX12_darkens.desc).map (fun d => d.parameters.length) = some 2 := by decide +kernel
theorem hdV_X12_isLane : yX12_isLane.cls = RX12 ∧ yX12_isLane.cls ≠ "java/lang/invoke/MethodHandle" ∧ yX12_isLane.cls ≠ "java/lang/invoke/VarHandle" ∧ (parseMethodDescriptor yX12_isLane.desc).map (fun d => d.parameters.length) = some 1 := by decide +kernel
theorem hdV_X12_isGate : yX12_isGate.cls = RX12 ∧ yX12_isGate.cls ≠ "java/lang/invoke/MethodHandle" ∧ yX12_isGate.cls ≠ "java/lang/invoke/VarHandle" ∧ (parseMethodDescriptor yX12_isGate.desc).map (fun d => d.parameters.length) = some 1 := by decide +kernel
theorem hdS_X12_isHalf : yX12_isHalf.cls ≠ "java/lang/invoke/MethodHandle" ∧ yX12_isHalf.cls ≠ "java/lang/invoke/VarHandle" ∧ (parseMethodDescriptor yX12_isHalf.desc).map (fun d => d.parameters.length) = some 1 := by decide +kernel
theorem hdV_X12_isHouse : yX12_isHouse.cls = RX12 ∧ yX12_isHouse.cls ≠ "java/lang/invoke/MethodHandle" ∧ yX12_isHouse.cls ≠ "java/lang/invoke/VarHandle" ∧ (parseMethodDescriptor yX12_isHouse.desc).map (fun d => d.parameters.length) = some 1 := by decide +kernel
theorem hdV_X12_isStreet : yX12_isStreet.cls = RX12 ∧ yX12_isStreet.cls ≠ "java/lang/invoke/MethodHandle" ∧ yX12_isStreet.cls ≠ "java/lang/invoke/VarHandle" ∧ (parseMethodDescriptor yX12_isStreet.desc).map (fun d => d.parameters.length) = some 1 := by decide +kernel
theorem hdV_X12_now : yX12_now.cls = RX12 ∧ yX12_now.cls ≠ "java/lang/invoke/MethodHandle" ∧ yX12_now.cls ≠ "java/lang/invoke/VarHandle" ∧ (parseMethodDescriptor yX12_now.desc).map (fun d => d.parameters.length) = some 0 := by decide +kernel
theorem hdV_X12_comesTo : yX12_comesTo.cls = RX12 ∧ yX12_comesTo.cls ≠ "java/lang/invoke/MethodHandle" ∧ yX12_comesTo.cls ≠ "java/lang/invoke/VarHandle" ∧ (parseMethodDescriptor yX12_comesTo.desc).map (fun d => d.parameters.length) = some 1 := by decide +kernel
theorem hdV_X12_laneOf : yX12_laneOf.cls = RX12 ∧ yX12_laneOf.cls ≠ "java/lang/invoke/MethodHandle" ∧ yX12_laneOf.cls ≠ "java/lang/invoke/VarHandle" ∧ (parseMethodDescriptor yX12_laneOf.desc).map (fun d => d.parameters.length) = some 1 := by decide +kernel
theorem hdV_X12_isTown : yX12_isTown.cls = RX12 ∧ yX12_isTown.cls ≠ "java/lang/invoke/MethodHandle" ∧ yX12_isTown.cls ≠ "java/lang/invoke/VarHandle" ∧ (parseMethodDescriptor yX12_isTown.desc).map (fun d => d.parameters.length) = some 0 := by decide +kernel
theorem hdS_X12_isMinute : yX12_isMinute.cls ≠ "java/lang/invoke/MethodHandle" ∧ yX12_isMinute.cls ≠ "java/lang/invoke/VarHandle" ∧ (parseMethodDescriptor yX12_isMinute.desc).map (fun d => d.parameters.length) = some 1 := by decide +kernel
theorem hdV_X12_fullOf : yX12_fullOf.cls = RX12 ∧ yX12_fullOf.cls ≠ "java/lang/invoke/MethodHandle" ∧ yX12_fullOf.cls ≠ "java/lang/invoke/VarHandle" ∧ (parseMethodDescriptor yX12_fullOf.desc).map (fun d => d.parameters.length) = some 0 := by decide +kernel
theorem hdV_X12_keeps : yX12_keeps.cls = RX12 ∧ yX12_keeps.cls ≠ "java/lang/invoke/MethodHandle" ∧ yX12_keeps.cls ≠ "java/lang/invoke/VarHandle" ∧ (parseMethodDescriptor yX12_keeps.desc).map (fun d => d.parameters.length) = some 0 := by decide +kernel
theorem hdV_X12_later : yX12_later.cls = RX12 ∧ yX12_later.cls ≠ "java/lang/invoke/MethodHandle" ∧ yX12_later.cls ≠ "java/lang/invoke/VarHandle" ∧ (parseMethodDescriptor yX12_later.desc).map (fun d => d.parameters.length) = some 0 := by decide +kernel
theorem hdV_X12_laysOwners : yX12_laysOwners.cls = RX12 ∧ yX12_laysOwners.cls ≠ "java/lang/invoke/MethodHandle" ∧ yX12_laysOwners.cls ≠ "java/lang/invoke/VarHandle" ∧ (parseMethodDescriptor yX12_laysOwners.desc).map (fun d => d.parameters.length) = some 0 := by decide +kernel
theorem hdV_X12_gladOf : yX12_gladOf.cls = RX12 ∧ yX12_gladOf.cls ≠ "java/lang/invoke/MethodHandle" ∧ yX12_gladOf.cls ≠ "java/lang/invoke/VarHandle" ∧ (parseMethodDescriptor yX12_gladOf.desc).map (fun d => d.parameters.length) = some 1 := by decide +kernel
theorem hdV_X12_gladAll : yX12_gladAll.cls = RX12 ∧ yX12_gladAll.cls ≠ "java/lang/invoke/MethodHandle" ∧ yX12_gladAll.cls ≠ "java/lang/invoke/VarHandle" ∧ (parseMethodDescriptor yX12_gladAll.desc).map (fun d => d.parameters.length) = some 0 := by decide +kernel
theorem hdV_X12_gladBy : yX12_gladBy.cls = RX12 ∧ yX12_gladBy.cls ≠ "java/lang/invoke/MethodHandle" ∧ yX12_gladBy.cls ≠ "java/lang/invoke/VarHandle" ∧ (parseMethodDescriptor yX12_gladBy.desc).map (fun d => d.parameters.length) = some 1 := by decide +kernel
theorem hdS_X12_sizeOf : yX12_sizeOf.cls ≠ "java/lang/invoke/MethodHandle" ∧ yX12_sizeOf.cls ≠ "java/lang/invoke/VarHandle" ∧ (parseMethodDescriptor yX12_sizeOf.desc).map (fun d => d.parameters.length) = some 1 := by decide +kernel
theorem hdV_X12_isChange : yX12_isChange.cls = RX12 ∧ yX12_isChange.cls ≠ "java/lang/invoke/MethodHandle" ∧ yX12_isChange.cls ≠ "java/lang/invoke/VarHandle" ∧ (parseMethodDescriptor yX12_isChange.desc).map (fun d => d.parameters.length) = some 1 := by decide +kernel
theorem hdV_X12_changesOf : yX12_changesOf.cls = RX12 ∧ yX12_changesOf.cls ≠ "java/lang/invoke/MethodHandle" ∧ yX12_changesOf.cls ≠ "java/lang/invoke/VarHandle" ∧ (parseMethodDescriptor yX12_changesOf.desc).map (fun d => d.parameters.length) = some 2 := by decide +kernel
theorem hdV_X12_cutsOf : yX12_cutsOf.cls = RX12 ∧ yX12_cutsOf.cls ≠ "java/lang/invoke/MethodHandle" ∧ yX12_cutsOf.cls ≠ "java/lang/invoke/VarHandle" ∧ (parseMethodDescriptor yX12_cutsOf.desc).map (fun d => d.parameters.length) = some 2 := by decide +kernel
theorem hdV_X12_asksOf : yX12_asksOf.cls = RX12 ∧ yX12_asksOf.cls ≠ "java/lang/invoke/MethodHandle" ∧ yX12_asksOf.cls ≠ "java/lang/invoke/VarHandle" ∧ (parseMethodDescriptor yX12_asksOf.desc).map (fun d => d.parameters.length) = some 1 := by decide +kernel
theorem hdV_X12_whyNot : yX12_whyNot.cls = RX12 ∧ yX12_whyNot.cls ≠ "java/lang/invoke/MethodHandle" ∧ yX12_whyNot.cls ≠ "java/lang/invoke/VarHandle" ∧ (parseMethodDescriptor yX12_whyNot.desc).map (fun d => d.parameters.length) = some 1 := by decide +kernel
theorem hdV_X12_laysFits : yX12_laysFits.cls = RX12 ∧ yX12_laysFits.cls ≠ "java/lang/invoke/MethodHandle" ∧ yX12_laysFits.cls ≠ "java/lang/invoke/VarHandle" ∧ (parseMethodDescriptor yX12_laysFits.desc).map (fun d => d.parameters.length) = some 1 := by decide +kernel
theorem hdV_X12_laysAsk : yX12_laysAsk.cls = RX12 ∧ yX12_laysAsk.cls ≠ "java/lang/invoke/MethodHandle" ∧ yX12_laysAsk.cls ≠ "java/lang/invoke/VarHandle" ∧ (parseMethodDescriptor yX12_laysAsk.desc).map (fun d => d.parameters.length) = some 1 := by decide +kernel
theorem hdV_X12_isPlace : yX12_isPlace.cls = RX12 ∧ yX12_isPlace.cls ≠ "java/lang/invoke/MethodHandle" ∧ yX12_isPlace.cls ≠ "java/lang/invoke/VarHandle" ∧ (parseMethodDescriptor yX12_isPlace.desc).map (fun d => d.parameters.length) = some 1 := by decide +kernel
theorem hdV_X12_placesOf : yX12_placesOf.cls = RX12 ∧ yX12_placesOf.cls ≠ "java/lang/invoke/MethodHandle" ∧ yX12_placesOf.cls ≠ "java/lang/invoke/VarHandle" ∧ (parseMethodDescriptor yX12_placesOf.desc).map (fun d => d.parameters.length) = some 2 := by decide +kernel
theorem hdV_X12_packs : yX12_packs.cls = RX12 ∧ yX12_packs.cls ≠ "java/lang/invoke/MethodHandle" ∧ yX12_packs.cls ≠ "java/lang/invoke/VarHandle" ∧ (parseMethodDescriptor yX12_packs.desc).map (fun d => d.parameters.length) = some 3 := by decide +kernel
theorem hdV_X12_isCart : yX12_isCart.cls = RX12 ∧ yX12_isCart.cls ≠ "java/lang/invoke/MethodHandle" ∧ yX12_isCart.cls ≠ "java/lang/invoke/VarHandle" ∧ (parseMethodDescriptor yX12_isCart.desc).map (fun d => d.parameters.length) = some 1 := by decide +kernel
theorem hdV_X12_cartsOf : yX12_cartsOf.cls = RX12 ∧ yX12_cartsOf.cls ≠ "java/lang/invoke/MethodHandle" ∧ yX12_cartsOf.cls ≠ "java/lang/invoke/VarHandle" ∧ (parseMethodDescriptor yX12_cartsOf.desc).map (fun d => d.parameters.length) = some 1 := by decide +kernel
theorem hdV_X12_winner : yX12_winner.cls = RX12 ∧ yX12_winner.cls ≠ "java/lang/invoke/MethodHandle" ∧ yX12_winner.cls ≠ "java/lang/invoke/VarHandle" ∧ (parseMethodDescriptor yX12_winner.desc).map (fun d => d.parameters.length) = some 0 := by decide +kernel
theorem hdV_X12_laysGame : yX12_laysGame.cls = RX12 ∧ yX12_laysGame.cls ≠ "java/lang/invoke/MethodHandle" ∧ yX12_laysGame.cls ≠ "java/lang/invoke/VarHandle" ∧ (parseMethodDescriptor yX12_laysGame.desc).map (fun d => d.parameters.length) = some 0 := by decide +kernel
theorem hdV_X12_townHas : yX12_townHas.cls = RX12 ∧ yX12_townHas.cls ≠ "java/lang/invoke/MethodHandle" ∧ yX12_townHas.cls ≠ "java/lang/invoke/VarHandle" ∧ (parseMethodDescriptor yX12_townHas.desc).map (fun d => d.parameters.length) = some 1 := by decide +kernel
theorem hdS_X12_common : yX12_common.cls ≠ "java/lang/invoke/MethodHandle" ∧ yX12_common.cls ≠ "java/lang/invoke/VarHandle" ∧ (parseMethodDescriptor yX12_common.desc).map (fun d => d.parameters.length) = some 2 := by decide +kernel
theorem hdV_X12_laysChance : yX12_laysChance.cls = RX12 ∧ yX12_laysChance.cls ≠ "java/lang/invoke/MethodHandle" ∧ yX12_laysChance.cls ≠ "java/lang/invoke/VarHandle" ∧ (parseMethodDescriptor yX12_laysChance.desc).map (fun d => d.parameters.length) = some 1 := by decide +kernel
theorem hdV_X12_isFull : yX12_isFull.cls = RX12 ∧ yX12_isFull.cls ≠ "java/lang/invoke/MethodHandle" ∧ yX12_isFull.cls ≠ "java/lang/invoke/VarHandle" ∧ (parseMethodDescriptor yX12_isFull.desc).map (fun d => d.parameters.length) = some 0 := by decide +kernel
theorem hdV_X12_acts : yX12_acts.cls = RX12 ∧ yX12_acts.cls ≠ "java/lang/invoke/MethodHandle" ∧ yX12_acts.cls ≠ "java/lang/invoke/VarHandle" ∧ (parseMethodDescriptor yX12_acts.desc).map (fun d => d.parameters.length) = some 3 := by decide +kernel
theorem hdV_X12_isSeed : yX12_isSeed.cls = RX12 ∧ yX12_isSeed.cls ≠ "java/lang/invoke/MethodHandle" ∧ yX12_isSeed.cls ≠ "java/lang/invoke/VarHandle" ∧ (parseMethodDescriptor yX12_isSeed.desc).map (fun d => d.parameters.length) = some 1 := by decide +kernel
theorem hdV_X12_drawnMud : yX12_drawnMud.cls = RX12 ∧ yX12_drawnMud.cls ≠ "java/lang/invoke/MethodHandle" ∧ yX12_drawnMud.cls ≠ "java/lang/invoke/VarHandle" ∧ (parseMethodDescriptor yX12_drawnMud.desc).map (fun d => d.parameters.length) = some 1 := by decide +kernel
theorem hdV_X1_minutesOf : yX1_minutesOf.cls = RX1 ∧ yX1_minutesOf.cls ≠ "java/lang/invoke/MethodHandle" ∧ yX1_minutesOf.cls ≠ "java/lang/invoke/VarHandle" ∧ (parseMethodDescriptor yX1_minutesOf.desc).map (fun d => d.parameters.length) = some 2 := by decide +kernel
theorem hdS_J7_fill_53178 : yJ7_fill_53178.cls ≠ "java/lang/invoke/MethodHandle" ∧ yJ7_fill_53178.cls ≠ "java/lang/invoke/VarHandle" ∧ (parseMethodDescriptor yJ7_fill_53178.desc).map (fun d => d.parameters.length) = some 2 := by decide +kernel
theorem hdV_X1_flow : yX1_flow.cls = RX1 ∧ yX1_flow.cls ≠ "java/lang/invoke/MethodHandle" ∧ yX1_flow.cls ≠ "java/lang/invoke/VarHandle" ∧ (parseMethodDescriptor yX1_flow.desc).map (fun d => d.parameters.length) = some 3 := by decide +kernel
theorem hdV_X1_enter : yX1_enter.cls = RX1 ∧ yX1_enter.cls ≠ "java/lang/invoke/MethodHandle" ∧ yX1_enter.cls ≠ "java/lang/invoke/VarHandle" ∧ (parseMethodDescriptor yX1_enter.desc).map (fun d => d.parameters.length) = some 2 := by decide +kernel
theorem hdV_X1_fallHeld : yX1_fallHeld.cls = RX1 ∧ yX1_fallHeld.cls ≠ "java/lang/invoke/MethodHandle" ∧ yX1_fallHeld.cls ≠ "java/lang/invoke/VarHandle" ∧ (parseMethodDescriptor yX1_fallHeld.desc).map (fun d => d.parameters.length) = some 5 := by decide +kernel
theorem hdV_X10_openLanes : yX10_openLanes.cls = RX10 ∧ yX10_openLanes.cls ≠ "java/lang/invoke/MethodHandle" ∧ yX10_openLanes.cls ≠ "java/lang/invoke/VarHandle" ∧ (parseMethodDescriptor yX10_openLanes.desc).map (fun d => d.parameters.length) = some 0 := by decide +kernel
theorem hdV_X1_fall : yX1_fall.cls = RX1 ∧ yX1_fall.cls ≠ "java/lang/invoke/MethodHandle" ∧ yX1_fall.cls ≠ "java/lang/invoke/VarHandle" ∧ (parseMethodDescriptor yX1_fall.desc).map (fun d => d.parameters.length) = some 3 := by decide +kernel
theorem hdS_J9_max_7cf53 : yJ9_max_7cf53.cls ≠ "java/lang/invoke/MethodHandle" ∧ yJ9_max_7cf53.cls ≠ "java/lang/invoke/VarHandle" ∧ (parseMethodDescriptor yJ9_max_7cf53.desc).map (fun d => d.parameters.length) = some 2 := by decide +kernel
theorem hdV_X1_acrossLane : yX1_acrossLane.cls = RX1 ∧ yX1_acrossLane.cls ≠ "java/lang/invoke/MethodHandle" ∧ yX1_acrossLane.cls ≠ "java/lang/invoke/VarHandle" ∧ (parseMethodDescriptor yX1_acrossLane.desc).map (fun d => d.parameters.length) = some 3 := by decide +kernel
theorem hdV_X1_laneInto : yX1_laneInto.cls = RX1 ∧ yX1_laneInto.cls ≠ "java/lang/invoke/MethodHandle" ∧ yX1_laneInto.cls ≠ "java/lang/invoke/VarHandle" ∧ (parseMethodDescriptor yX1_laneInto.desc).map (fun d => d.parameters.length) = some 2 := by decide +kernel
theorem hdS_J9_abs_0f7a4 : yJ9_abs_0f7a4.cls ≠ "java/lang/invoke/MethodHandle" ∧ yJ9_abs_0f7a4.cls ≠ "java/lang/invoke/VarHandle" ∧ (parseMethodDescriptor yJ9_abs_0f7a4.desc).map (fun d => d.parameters.length) = some 1 := by decide +kernel
theorem hdS_X1_gladAt : yX1_gladAt.cls ≠ "java/lang/invoke/MethodHandle" ∧ yX1_gladAt.cls ≠ "java/lang/invoke/VarHandle" ∧ (parseMethodDescriptor yX1_gladAt.desc).map (fun d => d.parameters.length) = some 3 := by decide +kernel
theorem hdV_X1_gladOf : yX1_gladOf.cls = RX1 ∧ yX1_gladOf.cls ≠ "java/lang/invoke/MethodHandle" ∧ yX1_gladOf.cls ≠ "java/lang/invoke/VarHandle" ∧ (parseMethodDescriptor yX1_gladOf.desc).map (fun d => d.parameters.length) = some 2 := by decide +kernel
theorem hdV_X1_fallFrom : yX1_fallFrom.cls = RX1 ∧ yX1_fallFrom.cls ≠ "java/lang/invoke/MethodHandle" ∧ yX1_fallFrom.cls ≠ "java/lang/invoke/VarHandle" ∧ (parseMethodDescriptor yX1_fallFrom.desc).map (fun d => d.parameters.length) = some 3 := by decide +kernel
theorem hdS_J9_min_7cf53 : yJ9_min_7cf53.cls ≠ "java/lang/invoke/MethodHandle" ∧ yJ9_min_7cf53.cls ≠ "java/lang/invoke/VarHandle" ∧ (parseMethodDescriptor yJ9_min_7cf53.desc).map (fun d => d.parameters.length) = some 2 := by decide +kernel
theorem hdV_X2_minuteWith : yX2_minuteWith.cls = RX2 ∧ yX2_minuteWith.cls ≠ "java/lang/invoke/MethodHandle" ∧ yX2_minuteWith.cls ≠ "java/lang/invoke/VarHandle" ∧ (parseMethodDescriptor yX2_minuteWith.desc).map (fun d => d.parameters.length) = some 3 := by decide +kernel
theorem hdV_X2_learnGate : yX2_learnGate.cls = RX2 ∧ yX2_learnGate.cls ≠ "java/lang/invoke/MethodHandle" ∧ yX2_learnGate.cls ≠ "java/lang/invoke/VarHandle" ∧ (parseMethodDescriptor yX2_learnGate.desc).map (fun d => d.parameters.length) = some 2 := by decide +kernel
theorem hdV_X2_gladWith : yX2_gladWith.cls = RX2 ∧ yX2_gladWith.cls ≠ "java/lang/invoke/MethodHandle" ∧ yX2_gladWith.cls ≠ "java/lang/invoke/VarHandle" ∧ (parseMethodDescriptor yX2_gladWith.desc).map (fun d => d.parameters.length) = some 3 := by decide +kernel
theorem hdS_X8_isSlot : yX8_isSlot.cls ≠ "java/lang/invoke/MethodHandle" ∧ yX8_isSlot.cls ≠ "java/lang/invoke/VarHandle" ∧ (parseMethodDescriptor yX8_isSlot.desc).map (fun d => d.parameters.length) = some 1 := by decide +kernel
theorem hdV_X8_length : yX8_length.cls = RX8 ∧ yX8_length.cls ≠ "java/lang/invoke/MethodHandle" ∧ yX8_length.cls ≠ "java/lang/invoke/VarHandle" ∧ (parseMethodDescriptor yX8_length.desc).map (fun d => d.parameters.length) = some 1 := by decide +kernel
theorem hdV_X8_number : yX8_number.cls = RX8 ∧ yX8_number.cls ≠ "java/lang/invoke/MethodHandle" ∧ yX8_number.cls ≠ "java/lang/invoke/VarHandle" ∧ (parseMethodDescriptor yX8_number.desc).map (fun d => d.parameters.length) = some 2 := by decide +kernel
theorem hdS_X11_minuteOrNone : yX11_minuteOrNone.cls ≠ "java/lang/invoke/MethodHandle" ∧ yX11_minuteOrNone.cls ≠ "java/lang/invoke/VarHandle" ∧ (parseMethodDescriptor yX11_minuteOrNone.desc).map (fun d => d.parameters.length) = some 1 := by decide +kernel
theorem hdV_X2_matches : yX2_matches.cls = RX2 ∧ yX2_matches.cls ≠ "java/lang/invoke/MethodHandle" ∧ yX2_matches.cls ≠ "java/lang/invoke/VarHandle" ∧ (parseMethodDescriptor yX2_matches.desc).map (fun d => d.parameters.length) = some 4 := by decide +kernel
theorem hdV_X2_leftAtWorst : yX2_leftAtWorst.cls = RX2 ∧ yX2_leftAtWorst.cls ≠ "java/lang/invoke/MethodHandle" ∧ yX2_leftAtWorst.cls ≠ "java/lang/invoke/VarHandle" ∧ (parseMethodDescriptor yX2_leftAtWorst.desc).map (fun d => d.parameters.length) = some 2 := by decide +kernel
theorem hdV_X1_wayTo : yX1_wayTo.cls = RX1 ∧ yX1_wayTo.cls ≠ "java/lang/invoke/MethodHandle" ∧ yX1_wayTo.cls ≠ "java/lang/invoke/VarHandle" ∧ (parseMethodDescriptor yX1_wayTo.desc).map (fun d => d.parameters.length) = some 2 := by decide +kernel
theorem hdS_J6_bitCount_0f7a4 : yJ6_bitCount_0f7a4.cls ≠ "java/lang/invoke/MethodHandle" ∧ yJ6_bitCount_0f7a4.cls ≠ "java/lang/invoke/VarHandle" ∧ (parseMethodDescriptor yJ6_bitCount_0f7a4.desc).map (fun d => d.parameters.length) = some 1 := by decide +kernel
theorem hdV_X3_weighLanes : yX3_weighLanes.cls = RX3 ∧ yX3_weighLanes.cls ≠ "java/lang/invoke/MethodHandle" ∧ yX3_weighLanes.cls ≠ "java/lang/invoke/VarHandle" ∧ (parseMethodDescriptor yX3_weighLanes.desc).map (fun d => d.parameters.length) = some 6 := by decide +kernel
theorem hdS_J7_fill_d0a16 : yJ7_fill_d0a16.cls ≠ "java/lang/invoke/MethodHandle" ∧ yJ7_fill_d0a16.cls ≠ "java/lang/invoke/VarHandle" ∧ (parseMethodDescriptor yJ7_fill_d0a16.desc).map (fun d => d.parameters.length) = some 2 := by decide +kernel
theorem hdS_X3_commonDivisor : yX3_commonDivisor.cls ≠ "java/lang/invoke/MethodHandle" ∧ yX3_commonDivisor.cls ≠ "java/lang/invoke/VarHandle" ∧ (parseMethodDescriptor yX3_commonDivisor.desc).map (fun d => d.parameters.length) = some 2 := by decide +kernel
theorem hdV_X1_fallNow : yX1_fallNow.cls = RX1 ∧ yX1_fallNow.cls ≠ "java/lang/invoke/MethodHandle" ∧ yX1_fallNow.cls ≠ "java/lang/invoke/VarHandle" ∧ (parseMethodDescriptor yX1_fallNow.desc).map (fun d => d.parameters.length) = some 1 := by decide +kernel
theorem hdV_X5_packs : yX5_packs.cls = RX5 ∧ yX5_packs.cls ≠ "java/lang/invoke/MethodHandle" ∧ yX5_packs.cls ≠ "java/lang/invoke/VarHandle" ∧ (parseMethodDescriptor yX5_packs.desc).map (fun d => d.parameters.length) = some 4 := by decide +kernel
theorem hdV_X1_fallAt : yX1_fallAt.cls = RX1 ∧ yX1_fallAt.cls ≠ "java/lang/invoke/MethodHandle" ∧ yX1_fallAt.cls ≠ "java/lang/invoke/VarHandle" ∧ (parseMethodDescriptor yX1_fallAt.desc).map (fun d => d.parameters.length) = some 2 := by decide +kernel
theorem hdV_X1_latest : yX1_latest.cls = RX1 ∧ yX1_latest.cls ≠ "java/lang/invoke/MethodHandle" ∧ yX1_latest.cls ≠ "java/lang/invoke/VarHandle" ∧ (parseMethodDescriptor yX1_latest.desc).map (fun d => d.parameters.length) = some 1 := by decide +kernel
theorem hdV_X6_weigh : yX6_weigh.cls = RX6 ∧ yX6_weigh.cls ≠ "java/lang/invoke/MethodHandle" ∧ yX6_weigh.cls ≠ "java/lang/invoke/VarHandle" ∧ (parseMethodDescriptor yX6_weigh.desc).map (fun d => d.parameters.length) = some 2 := by decide +kernel
theorem hdV_X1_gladOfAll : yX1_gladOfAll.cls = RX1 ∧ yX1_gladOfAll.cls ≠ "java/lang/invoke/MethodHandle" ∧ yX1_gladOfAll.cls ≠ "java/lang/invoke/VarHandle" ∧ (parseMethodDescriptor yX1_gladOfAll.desc).map (fun d => d.parameters.length) = some 1 := by decide +kernel
theorem hdV_X7_weighTurn : yX7_weighTurn.cls = RX7 ∧ yX7_weighTurn.cls ≠ "java/lang/invoke/MethodHandle" ∧ yX7_weighTurn.cls ≠ "java/lang/invoke/VarHandle" ∧ (parseMethodDescriptor yX7_weighTurn.desc).map (fun d => d.parameters.length) = some 2 := by decide +kernel
theorem hdV_X7_cutsKnownWays : yX7_cutsKnownWays.cls = RX7 ∧ yX7_cutsKnownWays.cls ≠ "java/lang/invoke/MethodHandle" ∧ yX7_cutsKnownWays.cls ≠ "java/lang/invoke/VarHandle" ∧ (parseMethodDescriptor yX7_cutsKnownWays.desc).map (fun d => d.parameters.length) = some 1 := by decide +kernel
theorem hdV_X7_cutsAll : yX7_cutsAll.cls = RX7 ∧ yX7_cutsAll.cls ≠ "java/lang/invoke/MethodHandle" ∧ yX7_cutsAll.cls ≠ "java/lang/invoke/VarHandle" ∧ (parseMethodDescriptor yX7_cutsAll.desc).map (fun d => d.parameters.length) = some 4 := by decide +kernel
theorem hdS_X7_isOpenIn : yX7_isOpenIn.cls ≠ "java/lang/invoke/MethodHandle" ∧ yX7_isOpenIn.cls ≠ "java/lang/invoke/VarHandle" ∧ (parseMethodDescriptor yX7_isOpenIn.desc).map (fun d => d.parameters.length) = some 2 := by decide +kernel
theorem hdV_X7_gladClerked : yX7_gladClerked.cls = RX7 ∧ yX7_gladClerked.cls ≠ "java/lang/invoke/MethodHandle" ∧ yX7_gladClerked.cls ≠ "java/lang/invoke/VarHandle" ∧ (parseMethodDescriptor yX7_gladClerked.desc).map (fun d => d.parameters.length) = some 3 := by decide +kernel
theorem hdV_X7_pairRests : yX7_pairRests.cls = RX7 ∧ yX7_pairRests.cls ≠ "java/lang/invoke/MethodHandle" ∧ yX7_pairRests.cls ≠ "java/lang/invoke/VarHandle" ∧ (parseMethodDescriptor yX7_pairRests.desc).map (fun d => d.parameters.length) = some 3 := by decide +kernel
theorem hdV_X8_reaches : yX8_reaches.cls = RX8 ∧ yX8_reaches.cls ≠ "java/lang/invoke/MethodHandle" ∧ yX8_reaches.cls ≠ "java/lang/invoke/VarHandle" ∧ (parseMethodDescriptor yX8_reaches.desc).map (fun d => d.parameters.length) = some 3 := by decide +kernel
theorem hdV_X9_byteAt : yX9_byteAt.cls = RX9 ∧ yX9_byteAt.cls ≠ "java/lang/invoke/MethodHandle" ∧ yX9_byteAt.cls ≠ "java/lang/invoke/VarHandle" ∧ (parseMethodDescriptor yX9_byteAt.desc).map (fun d => d.parameters.length) = some 1 := by decide +kernel
theorem hdS_X9_isLetter : yX9_isLetter.cls ≠ "java/lang/invoke/MethodHandle" ∧ yX9_isLetter.cls ≠ "java/lang/invoke/VarHandle" ∧ (parseMethodDescriptor yX9_isLetter.desc).map (fun d => d.parameters.length) = some 1 := by decide +kernel
theorem hdS_X9_isDigit : yX9_isDigit.cls ≠ "java/lang/invoke/MethodHandle" ∧ yX9_isDigit.cls ≠ "java/lang/invoke/VarHandle" ∧ (parseMethodDescriptor yX9_isDigit.desc).map (fun d => d.parameters.length) = some 1 := by decide +kernel
theorem hdS_X9_isBlank : yX9_isBlank.cls ≠ "java/lang/invoke/MethodHandle" ∧ yX9_isBlank.cls ≠ "java/lang/invoke/VarHandle" ∧ (parseMethodDescriptor yX9_isBlank.desc).map (fun d => d.parameters.length) = some 1 := by decide +kernel
theorem hdV_J0_coder_7d493 : yJ0_coder_7d493.cls = RJ0 ∧ yJ0_coder_7d493.cls ≠ "java/lang/invoke/MethodHandle" ∧ yJ0_coder_7d493.cls ≠ "java/lang/invoke/VarHandle" ∧ (parseMethodDescriptor yJ0_coder_7d493.desc).map (fun d => d.parameters.length) = some 0 := by decide +kernel
theorem hdS_J3_checkIndex_8e157 : yJ3_checkIndex_8e157.cls ≠ "java/lang/invoke/MethodHandle" ∧ yJ3_checkIndex_8e157.cls ≠ "java/lang/invoke/VarHandle" ∧ (parseMethodDescriptor yJ3_checkIndex_8e157.desc).map (fun d => d.parameters.length) = some 3 := by decide +kernel
theorem hdS_J0_checkIndex_df160 : yJ0_checkIndex_df160.cls ≠ "java/lang/invoke/MethodHandle" ∧ yJ0_checkIndex_df160.cls ≠ "java/lang/invoke/VarHandle" ∧ (parseMethodDescriptor yJ0_checkIndex_df160.desc).map (fun d => d.parameters.length) = some 2 := by decide +kernel
theorem hdV_J0_isLatin1_aae02 : yJ0_isLatin1_aae02.cls = RJ0 ∧ yJ0_isLatin1_aae02.cls ≠ "java/lang/invoke/MethodHandle" ∧ yJ0_isLatin1_aae02.cls ≠ "java/lang/invoke/VarHandle" ∧ (parseMethodDescriptor yJ0_isLatin1_aae02.desc).map (fun d => d.parameters.length) = some 0 := by decide +kernel
theorem hdS_J1_charAt_3b067 : yJ1_charAt_3b067.cls ≠ "java/lang/invoke/MethodHandle" ∧ yJ1_charAt_3b067.cls ≠ "java/lang/invoke/VarHandle" ∧ (parseMethodDescriptor yJ1_charAt_3b067.desc).map (fun d => d.parameters.length) = some 2 := by decide +kernel
theorem hdV_J0_length_8abf5 : yJ0_length_8abf5.cls = RJ0 ∧ yJ0_length_8abf5.cls ≠ "java/lang/invoke/MethodHandle" ∧ yJ0_length_8abf5.cls ≠ "java/lang/invoke/VarHandle" ∧ (parseMethodDescriptor yJ0_length_8abf5.desc).map (fun d => d.parameters.length) = some 0 := by decide +kernel
theorem hdV_J0_charAt_5068e : yJ0_charAt_5068e.cls = RJ0 ∧ yJ0_charAt_5068e.cls ≠ "java/lang/invoke/MethodHandle" ∧ yJ0_charAt_5068e.cls ≠ "java/lang/invoke/VarHandle" ∧ (parseMethodDescriptor yJ0_charAt_5068e.desc).map (fun d => d.parameters.length) = some 1 := by decide +kernel
theorem hdV_X9_advance : yX9_advance.cls = RX9 ∧ yX9_advance.cls ≠ "java/lang/invoke/MethodHandle" ∧ yX9_advance.cls ≠ "java/lang/invoke/VarHandle" ∧ (parseMethodDescriptor yX9_advance.desc).map (fun d => d.parameters.length) = some 0 := by decide +kernel
theorem hdV_X9_isWord : yX9_isWord.cls = RX9 ∧ yX9_isWord.cls ≠ "java/lang/invoke/MethodHandle" ∧ yX9_isWord.cls ≠ "java/lang/invoke/VarHandle" ∧ (parseMethodDescriptor yX9_isWord.desc).map (fun d => d.parameters.length) = some 1 := by decide +kernel
theorem hdV_X9_refuse : yX9_refuse.cls = RX9 ∧ yX9_refuse.cls ≠ "java/lang/invoke/MethodHandle" ∧ yX9_refuse.cls ≠ "java/lang/invoke/VarHandle" ∧ (parseMethodDescriptor yX9_refuse.desc).map (fun d => d.parameters.length) = some 1 := by decide +kernel
theorem hdV_X9_isSign : yX9_isSign.cls = RX9 ∧ yX9_isSign.cls ≠ "java/lang/invoke/MethodHandle" ∧ yX9_isSign.cls ≠ "java/lang/invoke/VarHandle" ∧ (parseMethodDescriptor yX9_isSign.desc).map (fun d => d.parameters.length) = some 0 := by decide +kernel
theorem hdV_X9_takesWord : yX9_takesWord.cls = RX9 ∧ yX9_takesWord.cls ≠ "java/lang/invoke/MethodHandle" ∧ yX9_takesWord.cls ≠ "java/lang/invoke/VarHandle" ∧ (parseMethodDescriptor yX9_takesWord.desc).map (fun d => d.parameters.length) = some 1 := by decide +kernel
theorem hdV_X9_takesNumber : yX9_takesNumber.cls = RX9 ∧ yX9_takesNumber.cls ≠ "java/lang/invoke/MethodHandle" ∧ yX9_takesNumber.cls ≠ "java/lang/invoke/VarHandle" ∧ (parseMethodDescriptor yX9_takesNumber.desc).map (fun d => d.parameters.length) = some 2 := by decide +kernel
theorem hdV_X9_takesSign : yX9_takesSign.cls = RX9 ∧ yX9_takesSign.cls ≠ "java/lang/invoke/MethodHandle" ∧ yX9_takesSign.cls ≠ "java/lang/invoke/VarHandle" ∧ (parseMethodDescriptor yX9_takesSign.desc).map (fun d => d.parameters.length) = some 0 := by decide +kernel
theorem hdV_X10_setBarred : yX10_setBarred.cls = RX10 ∧ yX10_setBarred.cls ≠ "java/lang/invoke/MethodHandle" ∧ yX10_setBarred.cls ≠ "java/lang/invoke/VarHandle" ∧ (parseMethodDescriptor yX10_setBarred.desc).map (fun d => d.parameters.length) = some 2 := by decide +kernel
theorem hdV_X9_readsStranger : yX9_readsStranger.cls = RX9 ∧ yX9_readsStranger.cls ≠ "java/lang/invoke/MethodHandle" ∧ yX9_readsStranger.cls ≠ "java/lang/invoke/VarHandle" ∧ (parseMethodDescriptor yX9_readsStranger.desc).map (fun d => d.parameters.length) = some 1 := by decide +kernel
theorem hdV_X9_readsHouse : yX9_readsHouse.cls = RX9 ∧ yX9_readsHouse.cls ≠ "java/lang/invoke/MethodHandle" ∧ yX9_readsHouse.cls ≠ "java/lang/invoke/VarHandle" ∧ (parseMethodDescriptor yX9_readsHouse.desc).map (fun d => d.parameters.length) = some 1 := by decide +kernel
theorem hdV_X9_readsGate : yX9_readsGate.cls = RX9 ∧ yX9_readsGate.cls ≠ "java/lang/invoke/MethodHandle" ∧ yX9_readsGate.cls ≠ "java/lang/invoke/VarHandle" ∧ (parseMethodDescriptor yX9_readsGate.desc).map (fun d => d.parameters.length) = some 1 := by decide +kernel
theorem hdV_X9_readsLane : yX9_readsLane.cls = RX9 ∧ yX9_readsLane.cls ≠ "java/lang/invoke/MethodHandle" ∧ yX9_readsLane.cls ≠ "java/lang/invoke/VarHandle" ∧ (parseMethodDescriptor yX9_readsLane.desc).map (fun d => d.parameters.length) = some 1 := by decide +kernel
theorem hdV_X9_readsLaneState : yX9_readsLaneState.cls = RX9 ∧ yX9_readsLaneState.cls ≠ "java/lang/invoke/MethodHandle" ∧ yX9_readsLaneState.cls ≠ "java/lang/invoke/VarHandle" ∧ (parseMethodDescriptor yX9_readsLaneState.desc).map (fun d => d.parameters.length) = some 1 := by decide +kernel
theorem hdV_X9_readsTown : yX9_readsTown.cls = RX9 ∧ yX9_readsTown.cls ≠ "java/lang/invoke/MethodHandle" ∧ yX9_readsTown.cls ≠ "java/lang/invoke/VarHandle" ∧ (parseMethodDescriptor yX9_readsTown.desc).map (fun d => d.parameters.length) = some 0 := by decide +kernel
theorem hdV_X10_clear : yX10_clear.cls = RX10 ∧ yX10_clear.cls ≠ "java/lang/invoke/MethodHandle" ∧ yX10_clear.cls ≠ "java/lang/invoke/VarHandle" ∧ (parseMethodDescriptor yX10_clear.desc).map (fun d => d.parameters.length) = some 0 := by decide +kernel
theorem hdV_X9_readsLine : yX9_readsLine.cls = RX9 ∧ yX9_readsLine.cls ≠ "java/lang/invoke/MethodHandle" ∧ yX9_readsLine.cls ≠ "java/lang/invoke/VarHandle" ∧ (parseMethodDescriptor yX9_readsLine.desc).map (fun d => d.parameters.length) = some 0 := by decide +kernel
theorem hdV_X0_become : yX0_become.cls = RX0 ∧ yX0_become.cls ≠ "java/lang/invoke/MethodHandle" ∧ yX0_become.cls ≠ "java/lang/invoke/VarHandle" ∧ (parseMethodDescriptor yX0_become.desc).map (fun d => d.parameters.length) = some 1 := by decide +kernel
theorem hdV_X9_hasRoom : yX9_hasRoom.cls = RX9 ∧ yX9_hasRoom.cls ≠ "java/lang/invoke/MethodHandle" ∧ yX9_hasRoom.cls ≠ "java/lang/invoke/VarHandle" ∧ (parseMethodDescriptor yX9_hasRoom.desc).map (fun d => d.parameters.length) = some 0 := by decide +kernel
theorem hdV_X9_append : yX9_append.cls = RX9 ∧ yX9_append.cls ≠ "java/lang/invoke/MethodHandle" ∧ yX9_append.cls ≠ "java/lang/invoke/VarHandle" ∧ (parseMethodDescriptor yX9_append.desc).map (fun d => d.parameters.length) = some 1 := by decide +kernel
theorem hdV_X9_reads : yX9_reads.cls = RX9 ∧ yX9_reads.cls ≠ "java/lang/invoke/MethodHandle" ∧ yX9_reads.cls ≠ "java/lang/invoke/VarHandle" ∧ (parseMethodDescriptor yX9_reads.desc).map (fun d => d.parameters.length) = some 0 := by decide +kernel
theorem hdV_X11_isLane : yX11_isLane.cls = RX11 ∧ yX11_isLane.cls ≠ "java/lang/invoke/MethodHandle" ∧ yX11_isLane.cls ≠ "java/lang/invoke/VarHandle" ∧ (parseMethodDescriptor yX11_isLane.desc).map (fun d => d.parameters.length) = some 1 := by decide +kernel
theorem hdV_X11_isGate : yX11_isGate.cls = RX11 ∧ yX11_isGate.cls ≠ "java/lang/invoke/MethodHandle" ∧ yX11_isGate.cls ≠ "java/lang/invoke/VarHandle" ∧ (parseMethodDescriptor yX11_isGate.desc).map (fun d => d.parameters.length) = some 1 := by decide +kernel
theorem hdV_X11_isHouse : yX11_isHouse.cls = RX11 ∧ yX11_isHouse.cls ≠ "java/lang/invoke/MethodHandle" ∧ yX11_isHouse.cls ≠ "java/lang/invoke/VarHandle" ∧ (parseMethodDescriptor yX11_isHouse.desc).map (fun d => d.parameters.length) = some 1 := by decide +kernel
theorem hdV_X11_isStreet : yX11_isStreet.cls = RX11 ∧ yX11_isStreet.cls ≠ "java/lang/invoke/MethodHandle" ∧ yX11_isStreet.cls ≠ "java/lang/invoke/VarHandle" ∧ (parseMethodDescriptor yX11_isStreet.desc).map (fun d => d.parameters.length) = some 1 := by decide +kernel
theorem hdV_X11_hasNoTown : yX11_hasNoTown.cls = RX11 ∧ yX11_hasNoTown.cls ≠ "java/lang/invoke/MethodHandle" ∧ yX11_hasNoTown.cls ≠ "java/lang/invoke/VarHandle" ∧ (parseMethodDescriptor yX11_hasNoTown.desc).map (fun d => d.parameters.length) = some 0 := by decide +kernel
theorem hdS_X11_isMinute : yX11_isMinute.cls ≠ "java/lang/invoke/MethodHandle" ∧ yX11_isMinute.cls ≠ "java/lang/invoke/VarHandle" ∧ (parseMethodDescriptor yX11_isMinute.desc).map (fun d => d.parameters.length) = some 1 := by decide +kernel
theorem hdV_X11_isOpen : yX11_isOpen.cls = RX11 ∧ yX11_isOpen.cls ≠ "java/lang/invoke/MethodHandle" ∧ yX11_isOpen.cls ≠ "java/lang/invoke/VarHandle" ∧ (parseMethodDescriptor yX11_isOpen.desc).map (fun d => d.parameters.length) = some 1 := by decide +kernel
theorem hdV_X1_isLike : yX1_isLike.cls = RX1 ∧ yX1_isLike.cls ≠ "java/lang/invoke/MethodHandle" ∧ yX1_isLike.cls ≠ "java/lang/invoke/VarHandle" ∧ (parseMethodDescriptor yX1_isLike.desc).map (fun d => d.parameters.length) = some 2 := by decide +kernel
theorem hdV_X4_settle : yX4_settle.cls = RX4 ∧ yX4_settle.cls ≠ "java/lang/invoke/MethodHandle" ∧ yX4_settle.cls ≠ "java/lang/invoke/VarHandle" ∧ (parseMethodDescriptor yX4_settle.desc).map (fun d => d.parameters.length) = some 1 := by decide +kernel
theorem hdV_X4_partedBy : yX4_partedBy.cls = RX4 ∧ yX4_partedBy.cls ≠ "java/lang/invoke/MethodHandle" ∧ yX4_partedBy.cls ≠ "java/lang/invoke/VarHandle" ∧ (parseMethodDescriptor yX4_partedBy.desc).map (fun d => d.parameters.length) = some 2 := by decide +kernel
theorem hdV_X4_darkAt : yX4_darkAt.cls = RX4 ∧ yX4_darkAt.cls ≠ "java/lang/invoke/MethodHandle" ∧ yX4_darkAt.cls ≠ "java/lang/invoke/VarHandle" ∧ (parseMethodDescriptor yX4_darkAt.desc).map (fun d => d.parameters.length) = some 1 := by decide +kernel
theorem hdS_X11_isFewLanes : yX11_isFewLanes.cls ≠ "java/lang/invoke/MethodHandle" ∧ yX11_isFewLanes.cls ≠ "java/lang/invoke/VarHandle" ∧ (parseMethodDescriptor yX11_isFewLanes.desc).map (fun d => d.parameters.length) = some 1 := by decide +kernel
theorem hdV_X7_turnLanes : yX7_turnLanes.cls = RX7 ∧ yX7_turnLanes.cls ≠ "java/lang/invoke/MethodHandle" ∧ yX7_turnLanes.cls ≠ "java/lang/invoke/VarHandle" ∧ (parseMethodDescriptor yX7_turnLanes.desc).map (fun d => d.parameters.length) = some 3 := by decide +kernel
theorem hdS_X11_isCutMinute : yX11_isCutMinute.cls ≠ "java/lang/invoke/MethodHandle" ∧ yX11_isCutMinute.cls ≠ "java/lang/invoke/VarHandle" ∧ (parseMethodDescriptor yX11_isCutMinute.desc).map (fun d => d.parameters.length) = some 1 := by decide +kernel
theorem hdV_X7_leastCut : yX7_leastCut.cls = RX7 ∧ yX7_leastCut.cls ≠ "java/lang/invoke/MethodHandle" ∧ yX7_leastCut.cls ≠ "java/lang/invoke/VarHandle" ∧ (parseMethodDescriptor yX7_leastCut.desc).map (fun d => d.parameters.length) = some 3 := by decide +kernel
theorem hdV_X2_gladdestHold : yX2_gladdestHold.cls = RX2 ∧ yX2_gladdestHold.cls ≠ "java/lang/invoke/MethodHandle" ∧ yX2_gladdestHold.cls ≠ "java/lang/invoke/VarHandle" ∧ (parseMethodDescriptor yX2_gladdestHold.desc).map (fun d => d.parameters.length) = some 2 := by decide +kernel
theorem hdV_X8_stands : yX8_stands.cls = RX8 ∧ yX8_stands.cls ≠ "java/lang/invoke/MethodHandle" ∧ yX8_stands.cls ≠ "java/lang/invoke/VarHandle" ∧ (parseMethodDescriptor yX8_stands.desc).map (fun d => d.parameters.length) = some 1 := by decide +kernel
theorem hdV_X8_tellsSights : yX8_tellsSights.cls = RX8 ∧ yX8_tellsSights.cls ≠ "java/lang/invoke/MethodHandle" ∧ yX8_tellsSights.cls ≠ "java/lang/invoke/VarHandle" ∧ (parseMethodDescriptor yX8_tellsSights.desc).map (fun d => d.parameters.length) = some 2 := by decide +kernel
theorem hdV_X11_refusedSlot : yX11_refusedSlot.cls = RX11 ∧ yX11_refusedSlot.cls ≠ "java/lang/invoke/MethodHandle" ∧ yX11_refusedSlot.cls ≠ "java/lang/invoke/VarHandle" ∧ (parseMethodDescriptor yX11_refusedSlot.desc).map (fun d => d.parameters.length) = some 1 := by decide +kernel
theorem hdV_X2_match : yX2_match.cls = RX2 ∧ yX2_match.cls ≠ "java/lang/invoke/MethodHandle" ∧ yX2_match.cls ≠ "java/lang/invoke/VarHandle" ∧ (parseMethodDescriptor yX2_match.desc).map (fun d => d.parameters.length) = some 3 := by decide +kernel
theorem hdV_X2_leastFitting : yX2_leastFitting.cls = RX2 ∧ yX2_leastFitting.cls ≠ "java/lang/invoke/MethodHandle" ∧ yX2_leastFitting.cls ≠ "java/lang/invoke/VarHandle" ∧ (parseMethodDescriptor yX2_leastFitting.desc).map (fun d => d.parameters.length) = some 1 := by decide +kernel
theorem hdV_X2_tellingStreet : yX2_tellingStreet.cls = RX2 ∧ yX2_tellingStreet.cls ≠ "java/lang/invoke/MethodHandle" ∧ yX2_tellingStreet.cls ≠ "java/lang/invoke/VarHandle" ∧ (parseMethodDescriptor yX2_tellingStreet.desc).map (fun d => d.parameters.length) = some 1 := by decide +kernel
theorem hdV_X11_ask : yX11_ask.cls = RX11 ∧ yX11_ask.cls ≠ "java/lang/invoke/MethodHandle" ∧ yX11_ask.cls ≠ "java/lang/invoke/VarHandle" ∧ (parseMethodDescriptor yX11_ask.desc).map (fun d => d.parameters.length) = some 1 := by decide +kernel
theorem hdS_X11_isGates : yX11_isGates.cls ≠ "java/lang/invoke/MethodHandle" ∧ yX11_isGates.cls ≠ "java/lang/invoke/VarHandle" ∧ (parseMethodDescriptor yX11_isGates.desc).map (fun d => d.parameters.length) = some 1 := by decide +kernel
theorem hdV_X6_search : yX6_search.cls = RX6 ∧ yX6_search.cls ≠ "java/lang/invoke/MethodHandle" ∧ yX6_search.cls ≠ "java/lang/invoke/VarHandle" ∧ (parseMethodDescriptor yX6_search.desc).map (fun d => d.parameters.length) = some 2 := by decide +kernel
theorem hdS_X11_isCartSize : yX11_isCartSize.cls ≠ "java/lang/invoke/MethodHandle" ∧ yX11_isCartSize.cls ≠ "java/lang/invoke/VarHandle" ∧ (parseMethodDescriptor yX11_isCartSize.desc).map (fun d => d.parameters.length) = some 1 := by decide +kernel
theorem hdV_X5_fewest : yX5_fewest.cls = RX5 ∧ yX5_fewest.cls ≠ "java/lang/invoke/MethodHandle" ∧ yX5_fewest.cls ≠ "java/lang/invoke/VarHandle" ∧ (parseMethodDescriptor yX5_fewest.desc).map (fun d => d.parameters.length) = some 2 := by decide +kernel
theorem hdV_X5_housesIn : yX5_housesIn.cls = RX5 ∧ yX5_housesIn.cls ≠ "java/lang/invoke/MethodHandle" ∧ yX5_housesIn.cls ≠ "java/lang/invoke/VarHandle" ∧ (parseMethodDescriptor yX5_housesIn.desc).map (fun d => d.parameters.length) = some 2 := by decide +kernel
theorem hdV_X10_dearestBut : yX10_dearestBut.cls = RX10 ∧ yX10_dearestBut.cls ≠ "java/lang/invoke/MethodHandle" ∧ yX10_dearestBut.cls ≠ "java/lang/invoke/VarHandle" ∧ (parseMethodDescriptor yX10_dearestBut.desc).map (fun d => d.parameters.length) = some 1 := by decide +kernel
theorem hdV_X7_weighClerk : yX7_weighClerk.cls = RX7 ∧ yX7_weighClerk.cls ≠ "java/lang/invoke/MethodHandle" ∧ yX7_weighClerk.cls ≠ "java/lang/invoke/VarHandle" ∧ (parseMethodDescriptor yX7_weighClerk.desc).map (fun d => d.parameters.length) = some 1 := by decide +kernel
theorem hdV_X7_restingPairs : yX7_restingPairs.cls = RX7 ∧ yX7_restingPairs.cls ≠ "java/lang/invoke/MethodHandle" ∧ yX7_restingPairs.cls ≠ "java/lang/invoke/VarHandle" ∧ (parseMethodDescriptor yX7_restingPairs.desc).map (fun d => d.parameters.length) = some 1 := by decide +kernel
theorem hdV_X7_clerksGate : yX7_clerksGate.cls = RX7 ∧ yX7_clerksGate.cls ≠ "java/lang/invoke/MethodHandle" ∧ yX7_clerksGate.cls ≠ "java/lang/invoke/VarHandle" ∧ (parseMethodDescriptor yX7_clerksGate.desc).map (fun d => d.parameters.length) = some 1 := by decide +kernel
theorem hdV_X3_weighStreet : yX3_weighStreet.cls = RX3 ∧ yX3_weighStreet.cls ≠ "java/lang/invoke/MethodHandle" ∧ yX3_weighStreet.cls ≠ "java/lang/invoke/VarHandle" ∧ (parseMethodDescriptor yX3_weighStreet.desc).map (fun d => d.parameters.length) = some 2 := by decide +kernel
theorem hdV_X3_chanceBy : yX3_chanceBy.cls = RX3 ∧ yX3_chanceBy.cls ≠ "java/lang/invoke/MethodHandle" ∧ yX3_chanceBy.cls ≠ "java/lang/invoke/VarHandle" ∧ (parseMethodDescriptor yX3_chanceBy.desc).map (fun d => d.parameters.length) = some 2 := by decide +kernel
theorem hdV_X3_leastMinute : yX3_leastMinute.cls = RX3 ∧ yX3_leastMinute.cls ≠ "java/lang/invoke/MethodHandle" ∧ yX3_leastMinute.cls ≠ "java/lang/invoke/VarHandle" ∧ (parseMethodDescriptor yX3_leastMinute.desc).map (fun d => d.parameters.length) = some 1 := by decide +kernel
theorem hdV_X0_keep : yX0_keep.cls = RX0 ∧ yX0_keep.cls ≠ "java/lang/invoke/MethodHandle" ∧ yX0_keep.cls ≠ "java/lang/invoke/VarHandle" ∧ (parseMethodDescriptor yX0_keep.desc).map (fun d => d.parameters.length) = some 3 := by decide +kernel
theorem hdV_X10_takeBack : yX10_takeBack.cls = RX10 ∧ yX10_takeBack.cls ≠ "java/lang/invoke/MethodHandle" ∧ yX10_takeBack.cls ≠ "java/lang/invoke/VarHandle" ∧ (parseMethodDescriptor yX10_takeBack.desc).map (fun d => d.parameters.length) = some 0 := by decide +kernel
theorem hdS_X11_isSeed : yX11_isSeed.cls ≠ "java/lang/invoke/MethodHandle" ∧ yX11_isSeed.cls ≠ "java/lang/invoke/VarHandle" ∧ (parseMethodDescriptor yX11_isSeed.desc).map (fun d => d.parameters.length) = some 1 := by decide +kernel
theorem hdS_X3_evening : yX3_evening.cls ≠ "java/lang/invoke/MethodHandle" ∧ yX3_evening.cls ≠ "java/lang/invoke/VarHandle" ∧ (parseMethodDescriptor yX3_evening.desc).map (fun d => d.parameters.length) = some 2 := by decide +kernel
theorem hdV_X8_standing : yX8_standing.cls = RX8 ∧ yX8_standing.cls ≠ "java/lang/invoke/MethodHandle" ∧ yX8_standing.cls ≠ "java/lang/invoke/VarHandle" ∧ (parseMethodDescriptor yX8_standing.desc).map (fun d => d.parameters.length) = some 0 := by decide +kernel
theorem hdV_X10_become : yX10_become.cls = RX10 ∧ yX10_become.cls ≠ "java/lang/invoke/MethodHandle" ∧ yX10_become.cls ≠ "java/lang/invoke/VarHandle" ∧ (parseMethodDescriptor yX10_become.desc).map (fun d => d.parameters.length) = some 1 := by decide +kernel
theorem hdV_X8_make : yX8_make.cls = RX8 ∧ yX8_make.cls ≠ "java/lang/invoke/MethodHandle" ∧ yX8_make.cls ≠ "java/lang/invoke/VarHandle" ∧ (parseMethodDescriptor yX8_make.desc).map (fun d => d.parameters.length) = some 3 := by decide +kernel
theorem hdV_X8_put : yX8_put.cls = RX8 ∧ yX8_put.cls ≠ "java/lang/invoke/MethodHandle" ∧ yX8_put.cls ≠ "java/lang/invoke/VarHandle" ∧ (parseMethodDescriptor yX8_put.desc).map (fun d => d.parameters.length) = some 3 := by decide +kernel
theorem hdV_X8_areAlike : yX8_areAlike.cls = RX8 ∧ yX8_areAlike.cls ≠ "java/lang/invoke/MethodHandle" ∧ yX8_areAlike.cls ≠ "java/lang/invoke/VarHandle" ∧ (parseMethodDescriptor yX8_areAlike.desc).map (fun d => d.parameters.length) = some 2 := by decide +kernel
theorem hdV_X8_copyPart : yX8_copyPart.cls = RX8 ∧ yX8_copyPart.cls ≠ "java/lang/invoke/MethodHandle" ∧ yX8_copyPart.cls ≠ "java/lang/invoke/VarHandle" ∧ (parseMethodDescriptor yX8_copyPart.desc).map (fun d => d.parameters.length) = some 5 := by decide +kernel
theorem hdS_X0_init : yX0_init.cls ≠ "java/lang/invoke/MethodHandle" ∧ yX0_init.cls ≠ "java/lang/invoke/VarHandle" ∧ (parseMethodDescriptor yX0_init.desc).map (fun d => d.parameters.length) = some 0 := by decide +kernel
theorem hdS_X10_init : yX10_init.cls ≠ "java/lang/invoke/MethodHandle" ∧ yX10_init.cls ≠ "java/lang/invoke/VarHandle" ∧ (parseMethodDescriptor yX10_init.desc).map (fun d => d.parameters.length) = some 0 := by decide +kernel
theorem hdS_X1_init : yX1_init.cls ≠ "java/lang/invoke/MethodHandle" ∧ yX1_init.cls ≠ "java/lang/invoke/VarHandle" ∧ (parseMethodDescriptor yX1_init.desc).map (fun d => d.parameters.length) = some 0 := by decide +kernel
theorem hdS_X9_init : yX9_init.cls ≠ "java/lang/invoke/MethodHandle" ∧ yX9_init.cls ≠ "java/lang/invoke/VarHandle" ∧ (parseMethodDescriptor yX9_init.desc).map (fun d => d.parameters.length) = some 0 := by decide +kernel
theorem hdS_X8_init : yX8_init.cls ≠ "java/lang/invoke/MethodHandle" ∧ yX8_init.cls ≠ "java/lang/invoke/VarHandle" ∧ (parseMethodDescriptor yX8_init.desc).map (fun d => d.parameters.length) = some 0 := by decide +kernel
theorem hdS_X4_init : yX4_init.cls ≠ "java/lang/invoke/MethodHandle" ∧ yX4_init.cls ≠ "java/lang/invoke/VarHandle" ∧ (parseMethodDescriptor yX4_init.desc).map (fun d => d.parameters.length) = some 0 := by decide +kernel
theorem hdS_X7_init : yX7_init.cls ≠ "java/lang/invoke/MethodHandle" ∧ yX7_init.cls ≠ "java/lang/invoke/VarHandle" ∧ (parseMethodDescriptor yX7_init.desc).map (fun d => d.parameters.length) = some 0 := by decide +kernel
theorem hdS_X2_init : yX2_init.cls ≠ "java/lang/invoke/MethodHandle" ∧ yX2_init.cls ≠ "java/lang/invoke/VarHandle" ∧ (parseMethodDescriptor yX2_init.desc).map (fun d => d.parameters.length) = some 0 := by decide +kernel
theorem hdS_X6_init : yX6_init.cls ≠ "java/lang/invoke/MethodHandle" ∧ yX6_init.cls ≠ "java/lang/invoke/VarHandle" ∧ (parseMethodDescriptor yX6_init.desc).map (fun d => d.parameters.length) = some 0 := by decide +kernel
theorem hdS_X5_init : yX5_init.cls ≠ "java/lang/invoke/MethodHandle" ∧ yX5_init.cls ≠ "java/lang/invoke/VarHandle" ∧ (parseMethodDescriptor yX5_init.desc).map (fun d => d.parameters.length) = some 0 := by decide +kernel
theorem hdS_X3_init : yX3_init.cls ≠ "java/lang/invoke/MethodHandle" ∧ yX3_init.cls ≠ "java/lang/invoke/VarHandle" ∧ (parseMethodDescriptor yX3_init.desc).map (fun d => d.parameters.length) = some 0 := by decide +kernel
