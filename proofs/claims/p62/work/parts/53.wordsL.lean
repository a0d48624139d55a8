theorem tw_2_213 : Cond.code yX11_feed cX11_feed 6 (some .int) ∈ TT := tt_2 (i := 213) rfl rfl
theorem tw_2_210 : Cond.methodLink RL 13 yX11_feed ∈ TT := tt_2 (i := 210) rfl rfl
theorem tw_2_211 : Cond.instanceMethod yX11_feed ∈ TT := tt_2 (i := 211) rfl rfl
theorem tw_2_212 : Cond.selects RX11 yX11_feed yX11_feed ∈ TT := tt_2 (i := 212) rfl rfl
theorem tw_6_205 : Cond.code yX12_feed cX12_feed 6 (some .int) ∈ TT := tt_6 (i := 205) rfl rfl
theorem tw_6_202 : Cond.methodLink RL 17 yX12_feed ∈ TT := tt_6 (i := 202) rfl rfl
theorem tw_6_203 : Cond.instanceMethod yX12_feed ∈ TT := tt_6 (i := 203) rfl rfl
theorem tw_6_204 : Cond.selects RX12 yX12_feed yX12_feed ∈ TT := tt_6 (i := 204) rfl rfl
theorem tw_2_225 : Cond.code yX11_end cX11_end 2 (some .int) ∈ TT := tt_2 (i := 225) rfl rfl
theorem tw_2_222 : Cond.methodLink RL 18 yX11_end ∈ TT := tt_2 (i := 222) rfl rfl
theorem tw_2_223 : Cond.instanceMethod yX11_end ∈ TT := tt_2 (i := 223) rfl rfl
theorem tw_2_224 : Cond.selects RX11 yX11_end yX11_end ∈ TT := tt_2 (i := 224) rfl rfl
theorem tw_6_213 : Cond.code yX12_end cX12_end 2 (some .int) ∈ TT := tt_6 (i := 213) rfl rfl
theorem tw_6_210 : Cond.methodLink RL 22 yX12_end ∈ TT := tt_6 (i := 210) rfl rfl
theorem tw_6_211 : Cond.instanceMethod yX12_end ∈ TT := tt_6 (i := 211) rfl rfl
theorem tw_6_212 : Cond.selects RX12 yX12_end yX12_end ∈ TT := tt_6 (i := 212) rfl rfl
theorem tw_2_229 : Cond.code yX11_town cX11_town 2 (some .int) ∈ TT := tt_2 (i := 229) rfl rfl
theorem tw_2_226 : Cond.methodLink RL 23 yX11_town ∈ TT := tt_2 (i := 226) rfl rfl
theorem tw_2_227 : Cond.instanceMethod yX11_town ∈ TT := tt_2 (i := 227) rfl rfl
theorem tw_2_228 : Cond.selects RX11 yX11_town yX11_town ∈ TT := tt_2 (i := 228) rfl rfl
theorem tw_6_221 : Cond.code yX12_town cX12_town 1 (some .int) ∈ TT := tt_6 (i := 221) rfl rfl
theorem tw_6_218 : Cond.methodLink RL 27 yX12_town ∈ TT := tt_6 (i := 218) rfl rfl
theorem tw_6_219 : Cond.instanceMethod yX12_town ∈ TT := tt_6 (i := 219) rfl rfl
theorem tw_6_220 : Cond.selects RX12 yX12_town yX12_town ∈ TT := tt_6 (i := 220) rfl rfl
theorem tw_3_142 : Cond.code yX11_fault cX11_fault 2 (some .int) ∈ TT := tt_3 (i := 142) rfl rfl
theorem tw_3_139 : Cond.methodLink RL 28 yX11_fault ∈ TT := tt_3 (i := 139) rfl rfl
theorem tw_3_140 : Cond.instanceMethod yX11_fault ∈ TT := tt_3 (i := 140) rfl rfl
theorem tw_3_141 : Cond.selects RX11 yX11_fault yX11_fault ∈ TT := tt_3 (i := 141) rfl rfl
theorem tw_6_217 : Cond.code yX12_fault cX12_fault 2 (some .int) ∈ TT := tt_6 (i := 217) rfl rfl
theorem tw_6_214 : Cond.methodLink RL 31 yX12_fault ∈ TT := tt_6 (i := 214) rfl rfl
theorem tw_6_215 : Cond.instanceMethod yX12_fault ∈ TT := tt_6 (i := 215) rfl rfl
theorem tw_6_216 : Cond.selects RX12 yX12_fault yX12_fault ∈ TT := tt_6 (i := 216) rfl rfl
theorem tw_3_146 : Cond.code yX11_lane cX11_lane 3 (some .int) ∈ TT := tt_3 (i := 146) rfl rfl
theorem tw_3_143 : Cond.methodLink RL 32 yX11_lane ∈ TT := tt_3 (i := 143) rfl rfl
theorem tw_3_144 : Cond.instanceMethod yX11_lane ∈ TT := tt_3 (i := 144) rfl rfl
theorem tw_3_145 : Cond.selects RX11 yX11_lane yX11_lane ∈ TT := tt_3 (i := 145) rfl rfl
theorem tw_7_97 : Cond.code yX12_lane cX12_lane 3 (some .int) ∈ TT := tt_7 (i := 97) rfl rfl
theorem tw_7_94 : Cond.methodLink RL 36 yX12_lane ∈ TT := tt_7 (i := 94) rfl rfl
theorem tw_7_95 : Cond.instanceMethod yX12_lane ∈ TT := tt_7 (i := 95) rfl rfl
theorem tw_7_96 : Cond.selects RX12 yX12_lane yX12_lane ∈ TT := tt_7 (i := 96) rfl rfl
theorem tw_3_154 : Cond.code yX11_gate cX11_gate 3 (some .int) ∈ TT := tt_3 (i := 154) rfl rfl
theorem tw_3_151 : Cond.methodLink RL 37 yX11_gate ∈ TT := tt_3 (i := 151) rfl rfl
theorem tw_3_152 : Cond.instanceMethod yX11_gate ∈ TT := tt_3 (i := 152) rfl rfl
theorem tw_3_153 : Cond.selects RX11 yX11_gate yX11_gate ∈ TT := tt_3 (i := 153) rfl rfl
theorem tw_7_113 : Cond.code yX12_gate cX12_gate 3 (some .int) ∈ TT := tt_7 (i := 113) rfl rfl
theorem tw_7_110 : Cond.methodLink RL 40 yX12_gate ∈ TT := tt_7 (i := 110) rfl rfl
theorem tw_7_111 : Cond.instanceMethod yX12_gate ∈ TT := tt_7 (i := 111) rfl rfl
theorem tw_7_112 : Cond.selects RX12 yX12_gate yX12_gate ∈ TT := tt_7 (i := 112) rfl rfl
theorem tw_3_162 : Cond.code yX11_house cX11_house 3 (some .int) ∈ TT := tt_3 (i := 162) rfl rfl
theorem tw_3_159 : Cond.methodLink RL 41 yX11_house ∈ TT := tt_3 (i := 159) rfl rfl
theorem tw_3_160 : Cond.instanceMethod yX11_house ∈ TT := tt_3 (i := 160) rfl rfl
theorem tw_3_161 : Cond.selects RX11 yX11_house yX11_house ∈ TT := tt_3 (i := 161) rfl rfl
theorem tw_7_124 : Cond.code yX12_house cX12_house 3 (some .int) ∈ TT := tt_7 (i := 124) rfl rfl
theorem tw_7_121 : Cond.methodLink RL 44 yX12_house ∈ TT := tt_7 (i := 121) rfl rfl
theorem tw_7_122 : Cond.instanceMethod yX12_house ∈ TT := tt_7 (i := 122) rfl rfl
theorem tw_7_123 : Cond.selects RX12 yX12_house yX12_house ∈ TT := tt_7 (i := 123) rfl rfl
theorem tw_3_170 : Cond.code yX11_comes cX11_comes 2 (some .int) ∈ TT := tt_3 (i := 170) rfl rfl
theorem tw_3_167 : Cond.methodLink RL 45 yX11_comes ∈ TT := tt_3 (i := 167) rfl rfl
theorem tw_3_168 : Cond.instanceMethod yX11_comes ∈ TT := tt_3 (i := 168) rfl rfl
theorem tw_3_169 : Cond.selects RX11 yX11_comes yX11_comes ∈ TT := tt_3 (i := 169) rfl rfl
theorem tw_7_132 : Cond.code yX12_comes cX12_comes 2 (some .int) ∈ TT := tt_7 (i := 132) rfl rfl
theorem tw_7_129 : Cond.methodLink RL 48 yX12_comes ∈ TT := tt_7 (i := 129) rfl rfl
theorem tw_7_130 : Cond.instanceMethod yX12_comes ∈ TT := tt_7 (i := 130) rfl rfl
theorem tw_7_131 : Cond.selects RX12 yX12_comes yX12_comes ∈ TT := tt_7 (i := 131) rfl rfl
theorem tw_3_214 : Cond.code yX11_from cX11_from 4 (some .int) ∈ TT := tt_3 (i := 214) rfl rfl
theorem tw_3_211 : Cond.methodLink RL 49 yX11_from ∈ TT := tt_3 (i := 211) rfl rfl
theorem tw_3_212 : Cond.instanceMethod yX11_from ∈ TT := tt_3 (i := 212) rfl rfl
theorem tw_3_213 : Cond.selects RX11 yX11_from yX11_from ∈ TT := tt_3 (i := 213) rfl rfl
theorem tw_7_168 : Cond.code yX12_from cX12_from 4 (some .int) ∈ TT := tt_7 (i := 168) rfl rfl
theorem tw_7_165 : Cond.methodLink RL 52 yX12_from ∈ TT := tt_7 (i := 165) rfl rfl
theorem tw_7_166 : Cond.instanceMethod yX12_from ∈ TT := tt_7 (i := 166) rfl rfl
theorem tw_7_167 : Cond.selects RX12 yX12_from yX12_from ∈ TT := tt_7 (i := 167) rfl rfl
theorem tw_3_222 : Cond.code yX11_by cX11_by 2 (some .int) ∈ TT := tt_3 (i := 222) rfl rfl
theorem tw_3_219 : Cond.methodLink RL 53 yX11_by ∈ TT := tt_3 (i := 219) rfl rfl
theorem tw_3_220 : Cond.instanceMethod yX11_by ∈ TT := tt_3 (i := 220) rfl rfl
theorem tw_3_221 : Cond.selects RX11 yX11_by yX11_by ∈ TT := tt_3 (i := 221) rfl rfl
theorem tw_7_172 : Cond.code yX12_by cX12_by 2 (some .int) ∈ TT := tt_7 (i := 172) rfl rfl
theorem tw_7_169 : Cond.methodLink RL 56 yX12_by ∈ TT := tt_7 (i := 169) rfl rfl
theorem tw_7_170 : Cond.instanceMethod yX12_by ∈ TT := tt_7 (i := 170) rfl rfl
theorem tw_7_171 : Cond.selects RX12 yX12_by yX12_by ∈ TT := tt_7 (i := 171) rfl rfl
theorem tw_3_234 : Cond.code yX11_light cX11_light 4 (some .int) ∈ TT := tt_3 (i := 234) rfl rfl
theorem tw_3_231 : Cond.methodLink RL 57 yX11_light ∈ TT := tt_3 (i := 231) rfl rfl
theorem tw_3_232 : Cond.instanceMethod yX11_light ∈ TT := tt_3 (i := 232) rfl rfl
theorem tw_3_233 : Cond.selects RX11 yX11_light yX11_light ∈ TT := tt_3 (i := 233) rfl rfl
theorem tw_7_180 : Cond.code yX12_light cX12_light 4 (some .int) ∈ TT := tt_7 (i := 180) rfl rfl
theorem tw_7_177 : Cond.methodLink RL 60 yX12_light ∈ TT := tt_7 (i := 177) rfl rfl
theorem tw_7_178 : Cond.instanceMethod yX12_light ∈ TT := tt_7 (i := 178) rfl rfl
theorem tw_7_179 : Cond.selects RX12 yX12_light yX12_light ∈ TT := tt_7 (i := 179) rfl rfl
theorem tw_4_5 : Cond.code yX11_full cX11_full 1 (some .int) ∈ TT := tt_4 (i := 5) rfl rfl
theorem tw_4_2 : Cond.methodLink RL 61 yX11_full ∈ TT := tt_4 (i := 2) rfl rfl
theorem tw_4_3 : Cond.instanceMethod yX11_full ∈ TT := tt_4 (i := 3) rfl rfl
theorem tw_4_4 : Cond.selects RX11 yX11_full yX11_full ∈ TT := tt_4 (i := 4) rfl rfl
theorem tw_7_192 : Cond.code yX12_full cX12_full 1 (some .int) ∈ TT := tt_7 (i := 192) rfl rfl
theorem tw_7_189 : Cond.methodLink RL 64 yX12_full ∈ TT := tt_7 (i := 189) rfl rfl
theorem tw_7_190 : Cond.instanceMethod yX12_full ∈ TT := tt_7 (i := 190) rfl rfl
theorem tw_7_191 : Cond.selects RX12 yX12_full yX12_full ∈ TT := tt_7 (i := 191) rfl rfl
theorem tw_4_16 : Cond.code yX11_last cX11_last 5 (some .int) ∈ TT := tt_4 (i := 16) rfl rfl
theorem tw_4_13 : Cond.methodLink RL 65 yX11_last ∈ TT := tt_4 (i := 13) rfl rfl
theorem tw_4_14 : Cond.instanceMethod yX11_last ∈ TT := tt_4 (i := 14) rfl rfl
theorem tw_4_15 : Cond.selects RX11 yX11_last yX11_last ∈ TT := tt_4 (i := 15) rfl rfl
theorem tw_7_200 : Cond.code yX12_last cX12_last 3 (some .int) ∈ TT := tt_7 (i := 200) rfl rfl
theorem tw_7_197 : Cond.methodLink RL 68 yX12_last ∈ TT := tt_7 (i := 197) rfl rfl
theorem tw_7_198 : Cond.instanceMethod yX12_last ∈ TT := tt_7 (i := 198) rfl rfl
theorem tw_7_199 : Cond.selects RX12 yX12_last yX12_last ∈ TT := tt_7 (i := 199) rfl rfl
theorem tw_4_20 : Cond.code yX11_idle cX11_idle 3 (some .int) ∈ TT := tt_4 (i := 20) rfl rfl
theorem tw_4_17 : Cond.methodLink RL 69 yX11_idle ∈ TT := tt_4 (i := 17) rfl rfl
theorem tw_4_18 : Cond.instanceMethod yX11_idle ∈ TT := tt_4 (i := 18) rfl rfl
theorem tw_4_19 : Cond.selects RX11 yX11_idle yX11_idle ∈ TT := tt_4 (i := 19) rfl rfl
theorem tw_7_212 : Cond.code yX12_idle cX12_idle 5 (some .int) ∈ TT := tt_7 (i := 212) rfl rfl
theorem tw_7_209 : Cond.methodLink RL 72 yX12_idle ∈ TT := tt_7 (i := 209) rfl rfl
theorem tw_7_210 : Cond.instanceMethod yX12_idle ∈ TT := tt_7 (i := 210) rfl rfl
theorem tw_7_211 : Cond.selects RX12 yX12_idle yX12_idle ∈ TT := tt_7 (i := 211) rfl rfl
theorem tw_4_34 : Cond.code yX11_harm cX11_harm 4 (some .int) ∈ TT := tt_4 (i := 34) rfl rfl
theorem tw_4_31 : Cond.methodLink RL 73 yX11_harm ∈ TT := tt_4 (i := 31) rfl rfl
theorem tw_4_32 : Cond.instanceMethod yX11_harm ∈ TT := tt_4 (i := 32) rfl rfl
theorem tw_4_33 : Cond.selects RX11 yX11_harm yX11_harm ∈ TT := tt_4 (i := 33) rfl rfl
theorem tw_7_220 : Cond.code yX12_harm cX12_harm 2 (some .int) ∈ TT := tt_7 (i := 220) rfl rfl
theorem tw_7_217 : Cond.methodLink RL 76 yX12_harm ∈ TT := tt_7 (i := 217) rfl rfl
theorem tw_7_218 : Cond.instanceMethod yX12_harm ∈ TT := tt_7 (i := 218) rfl rfl
theorem tw_7_219 : Cond.selects RX12 yX12_harm yX12_harm ∈ TT := tt_7 (i := 219) rfl rfl
theorem tw_4_39 : Cond.code yX11_whose cX11_whose 2 (some .int) ∈ TT := tt_4 (i := 39) rfl rfl
theorem tw_4_36 : Cond.methodLink RL 77 yX11_whose ∈ TT := tt_4 (i := 36) rfl rfl
theorem tw_4_37 : Cond.instanceMethod yX11_whose ∈ TT := tt_4 (i := 37) rfl rfl
theorem tw_4_38 : Cond.selects RX11 yX11_whose yX11_whose ∈ TT := tt_4 (i := 38) rfl rfl
theorem tw_7_228 : Cond.code yX12_whose cX12_whose 2 (some .int) ∈ TT := tt_7 (i := 228) rfl rfl
theorem tw_7_225 : Cond.methodLink RL 80 yX12_whose ∈ TT := tt_7 (i := 225) rfl rfl
theorem tw_7_226 : Cond.instanceMethod yX12_whose ∈ TT := tt_7 (i := 226) rfl rfl
theorem tw_7_227 : Cond.selects RX12 yX12_whose yX12_whose ∈ TT := tt_7 (i := 227) rfl rfl
theorem tw_4_51 : Cond.code yX11_owns cX11_owns 4 (some .int) ∈ TT := tt_4 (i := 51) rfl rfl
theorem tw_4_48 : Cond.methodLink RL 81 yX11_owns ∈ TT := tt_4 (i := 48) rfl rfl
theorem tw_4_49 : Cond.instanceMethod yX11_owns ∈ TT := tt_4 (i := 49) rfl rfl
theorem tw_4_50 : Cond.selects RX11 yX11_owns yX11_owns ∈ TT := tt_4 (i := 50) rfl rfl
theorem tw_7_236 : Cond.code yX12_owns cX12_owns 4 (some .int) ∈ TT := tt_7 (i := 236) rfl rfl
theorem tw_7_233 : Cond.methodLink RL 84 yX12_owns ∈ TT := tt_7 (i := 233) rfl rfl
theorem tw_7_234 : Cond.instanceMethod yX12_owns ∈ TT := tt_7 (i := 234) rfl rfl
theorem tw_7_235 : Cond.selects RX12 yX12_owns yX12_owns ∈ TT := tt_7 (i := 235) rfl rfl
theorem tw_4_55 : Cond.code yX11_front cX11_front 3 (some .int) ∈ TT := tt_4 (i := 55) rfl rfl
theorem tw_4_52 : Cond.methodLink RL 85 yX11_front ∈ TT := tt_4 (i := 52) rfl rfl
theorem tw_4_53 : Cond.instanceMethod yX11_front ∈ TT := tt_4 (i := 53) rfl rfl
theorem tw_4_54 : Cond.selects RX11 yX11_front yX11_front ∈ TT := tt_4 (i := 54) rfl rfl
theorem tw_8_0 : Cond.code yX12_front cX12_front 5 (some .int) ∈ TT := tt_8 (i := 0) rfl rfl
theorem tw_7_237 : Cond.methodLink RL 88 yX12_front ∈ TT := tt_7 (i := 237) rfl rfl
theorem tw_7_238 : Cond.instanceMethod yX12_front ∈ TT := tt_7 (i := 238) rfl rfl
theorem tw_7_239 : Cond.selects RX12 yX12_front yX12_front ∈ TT := tt_7 (i := 239) rfl rfl
theorem tw_4_63 : Cond.code yX11_late cX11_late 2 (some .int) ∈ TT := tt_4 (i := 63) rfl rfl
theorem tw_4_60 : Cond.methodLink RL 89 yX11_late ∈ TT := tt_4 (i := 60) rfl rfl
theorem tw_4_61 : Cond.instanceMethod yX11_late ∈ TT := tt_4 (i := 61) rfl rfl
theorem tw_4_62 : Cond.selects RX11 yX11_late yX11_late ∈ TT := tt_4 (i := 62) rfl rfl
theorem tw_8_4 : Cond.code yX12_late cX12_late 2 (some .int) ∈ TT := tt_8 (i := 4) rfl rfl
theorem tw_8_1 : Cond.methodLink RL 92 yX12_late ∈ TT := tt_8 (i := 1) rfl rfl
theorem tw_8_2 : Cond.instanceMethod yX12_late ∈ TT := tt_8 (i := 2) rfl rfl
theorem tw_8_3 : Cond.selects RX12 yX12_late yX12_late ∈ TT := tt_8 (i := 3) rfl rfl
theorem tw_4_71 : Cond.code yX11_glad cX11_glad 2 (some .int) ∈ TT := tt_4 (i := 71) rfl rfl
theorem tw_4_68 : Cond.methodLink RL 93 yX11_glad ∈ TT := tt_4 (i := 68) rfl rfl
theorem tw_4_69 : Cond.instanceMethod yX11_glad ∈ TT := tt_4 (i := 69) rfl rfl
theorem tw_4_70 : Cond.selects RX11 yX11_glad yX11_glad ∈ TT := tt_4 (i := 70) rfl rfl
theorem tw_8_8 : Cond.code yX12_glad cX12_glad 2 (some .int) ∈ TT := tt_8 (i := 8) rfl rfl
theorem tw_8_5 : Cond.methodLink RL 96 yX12_glad ∈ TT := tt_8 (i := 5) rfl rfl
theorem tw_8_6 : Cond.instanceMethod yX12_glad ∈ TT := tt_8 (i := 6) rfl rfl
theorem tw_8_7 : Cond.selects RX12 yX12_glad yX12_glad ∈ TT := tt_8 (i := 7) rfl rfl
theorem tw_4_85 : Cond.code yX11_all cX11_all 1 (some .int) ∈ TT := tt_4 (i := 85) rfl rfl
theorem tw_4_82 : Cond.methodLink RL 97 yX11_all ∈ TT := tt_4 (i := 82) rfl rfl
theorem tw_4_83 : Cond.instanceMethod yX11_all ∈ TT := tt_4 (i := 83) rfl rfl
theorem tw_4_84 : Cond.selects RX11 yX11_all yX11_all ∈ TT := tt_4 (i := 84) rfl rfl
theorem tw_8_16 : Cond.code yX12_all cX12_all 1 (some .int) ∈ TT := tt_8 (i := 16) rfl rfl
theorem tw_8_13 : Cond.methodLink RL 100 yX12_all ∈ TT := tt_8 (i := 13) rfl rfl
theorem tw_8_14 : Cond.instanceMethod yX12_all ∈ TT := tt_8 (i := 14) rfl rfl
theorem tw_8_15 : Cond.selects RX12 yX12_all yX12_all ∈ TT := tt_8 (i := 15) rfl rfl
theorem tw_4_94 : Cond.code yX11_steps cX11_steps 2 (some .int) ∈ TT := tt_4 (i := 94) rfl rfl
theorem tw_4_91 : Cond.methodLink RL 101 yX11_steps ∈ TT := tt_4 (i := 91) rfl rfl
theorem tw_4_92 : Cond.instanceMethod yX11_steps ∈ TT := tt_4 (i := 92) rfl rfl
theorem tw_4_93 : Cond.selects RX11 yX11_steps yX11_steps ∈ TT := tt_4 (i := 93) rfl rfl
theorem tw_7_204 : Cond.code yX12_steps cX12_steps 5 (some .int) ∈ TT := tt_7 (i := 204) rfl rfl
theorem tw_7_201 : Cond.methodLink RL 104 yX12_steps ∈ TT := tt_7 (i := 201) rfl rfl
theorem tw_7_202 : Cond.instanceMethod yX12_steps ∈ TT := tt_7 (i := 202) rfl rfl
theorem tw_7_203 : Cond.selects RX12 yX12_steps yX12_steps ∈ TT := tt_7 (i := 203) rfl rfl
theorem tw_4_109 : Cond.code yX11_have cX11_have 4 (some .int) ∈ TT := tt_4 (i := 109) rfl rfl
theorem tw_4_106 : Cond.methodLink RL 105 yX11_have ∈ TT := tt_4 (i := 106) rfl rfl
theorem tw_4_107 : Cond.instanceMethod yX11_have ∈ TT := tt_4 (i := 107) rfl rfl
theorem tw_4_108 : Cond.selects RX11 yX11_have yX11_have ∈ TT := tt_4 (i := 108) rfl rfl
theorem tw_7_208 : Cond.code yX12_have cX12_have 4 (some .int) ∈ TT := tt_7 (i := 208) rfl rfl
theorem tw_7_205 : Cond.methodLink RL 108 yX12_have ∈ TT := tt_7 (i := 205) rfl rfl
theorem tw_7_206 : Cond.instanceMethod yX12_have ∈ TT := tt_7 (i := 206) rfl rfl
theorem tw_7_207 : Cond.selects RX12 yX12_have yX12_have ∈ TT := tt_7 (i := 207) rfl rfl
theorem tw_4_113 : Cond.code yX11_gladdest cX11_gladdest 5 (some .int) ∈ TT := tt_4 (i := 113) rfl rfl
theorem tw_4_110 : Cond.methodLink RL 109 yX11_gladdest ∈ TT := tt_4 (i := 110) rfl rfl
theorem tw_4_111 : Cond.instanceMethod yX11_gladdest ∈ TT := tt_4 (i := 111) rfl rfl
theorem tw_4_112 : Cond.selects RX11 yX11_gladdest yX11_gladdest ∈ TT := tt_4 (i := 112) rfl rfl
theorem tw_8_24 : Cond.code yX12_gladdest cX12_gladdest 5 (some .int) ∈ TT := tt_8 (i := 24) rfl rfl
theorem tw_8_21 : Cond.methodLink RL 112 yX12_gladdest ∈ TT := tt_8 (i := 21) rfl rfl
theorem tw_8_22 : Cond.instanceMethod yX12_gladdest ∈ TT := tt_8 (i := 22) rfl rfl
theorem tw_8_23 : Cond.selects RX12 yX12_gladdest yX12_gladdest ∈ TT := tt_8 (i := 23) rfl rfl
theorem tw_4_117 : Cond.code yX11_best cX11_best 2 (some .int) ∈ TT := tt_4 (i := 117) rfl rfl
theorem tw_4_114 : Cond.methodLink RL 113 yX11_best ∈ TT := tt_4 (i := 114) rfl rfl
theorem tw_4_115 : Cond.instanceMethod yX11_best ∈ TT := tt_4 (i := 115) rfl rfl
theorem tw_4_116 : Cond.selects RX11 yX11_best yX11_best ∈ TT := tt_4 (i := 116) rfl rfl
theorem tw_8_28 : Cond.code yX12_best cX12_best 2 (some .int) ∈ TT := tt_8 (i := 28) rfl rfl
theorem tw_8_25 : Cond.methodLink RL 116 yX12_best ∈ TT := tt_8 (i := 25) rfl rfl
theorem tw_8_26 : Cond.instanceMethod yX12_best ∈ TT := tt_8 (i := 26) rfl rfl
theorem tw_8_27 : Cond.selects RX12 yX12_best yX12_best ∈ TT := tt_8 (i := 27) rfl rfl
theorem tw_4_136 : Cond.code yX11_bars cX11_bars 2 (some .int) ∈ TT := tt_4 (i := 136) rfl rfl
theorem tw_4_133 : Cond.methodLink RL 117 yX11_bars ∈ TT := tt_4 (i := 133) rfl rfl
theorem tw_4_134 : Cond.instanceMethod yX11_bars ∈ TT := tt_4 (i := 134) rfl rfl
theorem tw_4_135 : Cond.selects RX11 yX11_bars yX11_bars ∈ TT := tt_4 (i := 135) rfl rfl
theorem tw_8_47 : Cond.code yX12_bars cX12_bars 2 (some .int) ∈ TT := tt_8 (i := 47) rfl rfl
theorem tw_8_44 : Cond.methodLink RL 120 yX12_bars ∈ TT := tt_8 (i := 44) rfl rfl
theorem tw_8_45 : Cond.instanceMethod yX12_bars ∈ TT := tt_8 (i := 45) rfl rfl
theorem tw_8_46 : Cond.selects RX12 yX12_bars yX12_bars ∈ TT := tt_8 (i := 46) rfl rfl
theorem tw_4_140 : Cond.code yX11_opens cX11_opens 2 (some .int) ∈ TT := tt_4 (i := 140) rfl rfl
theorem tw_4_137 : Cond.methodLink RL 121 yX11_opens ∈ TT := tt_4 (i := 137) rfl rfl
theorem tw_4_138 : Cond.instanceMethod yX11_opens ∈ TT := tt_4 (i := 138) rfl rfl
theorem tw_4_139 : Cond.selects RX11 yX11_opens yX11_opens ∈ TT := tt_4 (i := 139) rfl rfl
theorem tw_8_51 : Cond.code yX12_opens cX12_opens 2 (some .int) ∈ TT := tt_8 (i := 51) rfl rfl
theorem tw_8_48 : Cond.methodLink RL 124 yX12_opens ∈ TT := tt_8 (i := 48) rfl rfl
theorem tw_8_49 : Cond.instanceMethod yX12_opens ∈ TT := tt_8 (i := 49) rfl rfl
theorem tw_8_50 : Cond.selects RX12 yX12_opens yX12_opens ∈ TT := tt_8 (i := 50) rfl rfl
theorem tw_4_144 : Cond.code yX11_cut cX11_cut 4 (some .int) ∈ TT := tt_4 (i := 144) rfl rfl
theorem tw_4_141 : Cond.methodLink RL 125 yX11_cut ∈ TT := tt_4 (i := 141) rfl rfl
theorem tw_4_142 : Cond.instanceMethod yX11_cut ∈ TT := tt_4 (i := 142) rfl rfl
theorem tw_4_143 : Cond.selects RX11 yX11_cut yX11_cut ∈ TT := tt_4 (i := 143) rfl rfl
theorem tw_8_55 : Cond.code yX12_cut_ cX12_cut_ 4 (some .int) ∈ TT := tt_8 (i := 55) rfl rfl
theorem tw_8_52 : Cond.methodLink RL 128 yX12_cut_ ∈ TT := tt_8 (i := 52) rfl rfl
theorem tw_8_53 : Cond.instanceMethod yX12_cut_ ∈ TT := tt_8 (i := 53) rfl rfl
theorem tw_8_54 : Cond.selects RX12 yX12_cut_ yX12_cut_ ∈ TT := tt_8 (i := 54) rfl rfl
theorem tw_4_164 : Cond.code yX11_cuts cX11_cuts 3 (some .int) ∈ TT := tt_4 (i := 164) rfl rfl
theorem tw_4_161 : Cond.methodLink RL 129 yX11_cuts ∈ TT := tt_4 (i := 161) rfl rfl
theorem tw_4_162 : Cond.instanceMethod yX11_cuts ∈ TT := tt_4 (i := 162) rfl rfl
theorem tw_4_163 : Cond.selects RX11 yX11_cuts yX11_cuts ∈ TT := tt_4 (i := 163) rfl rfl
theorem tw_8_64 : Cond.code yX12_cuts cX12_cuts 3 (some .int) ∈ TT := tt_8 (i := 64) rfl rfl
theorem tw_8_61 : Cond.methodLink RL 132 yX12_cuts ∈ TT := tt_8 (i := 61) rfl rfl
theorem tw_8_62 : Cond.instanceMethod yX12_cuts ∈ TT := tt_8 (i := 62) rfl rfl
theorem tw_8_63 : Cond.selects RX12 yX12_cuts yX12_cuts ∈ TT := tt_8 (i := 63) rfl rfl
theorem tw_4_168 : Cond.code yX11_hold cX11_hold 5 (some .int) ∈ TT := tt_4 (i := 168) rfl rfl
theorem tw_4_165 : Cond.methodLink RL 133 yX11_hold ∈ TT := tt_4 (i := 165) rfl rfl
theorem tw_4_166 : Cond.instanceMethod yX11_hold ∈ TT := tt_4 (i := 166) rfl rfl
theorem tw_4_167 : Cond.selects RX11 yX11_hold yX11_hold ∈ TT := tt_4 (i := 167) rfl rfl
theorem tw_8_68 : Cond.code yX12_hold cX12_hold 5 (some .int) ∈ TT := tt_8 (i := 68) rfl rfl
theorem tw_8_65 : Cond.methodLink RL 137 yX12_hold ∈ TT := tt_8 (i := 65) rfl rfl
theorem tw_8_66 : Cond.instanceMethod yX12_hold ∈ TT := tt_8 (i := 66) rfl rfl
theorem tw_8_67 : Cond.selects RX12 yX12_hold yX12_hold ∈ TT := tt_8 (i := 67) rfl rfl
theorem tw_4_188 : Cond.code yX11_asks cX11_asks 2 (some .int) ∈ TT := tt_4 (i := 188) rfl rfl
theorem tw_4_185 : Cond.methodLink RL 138 yX11_asks ∈ TT := tt_4 (i := 185) rfl rfl
theorem tw_4_186 : Cond.instanceMethod yX11_asks ∈ TT := tt_4 (i := 186) rfl rfl
theorem tw_4_187 : Cond.selects RX11 yX11_asks yX11_asks ∈ TT := tt_4 (i := 187) rfl rfl
theorem tw_8_72 : Cond.code yX12_asks_ cX12_asks_ 2 (some .int) ∈ TT := tt_8 (i := 72) rfl rfl
theorem tw_8_69 : Cond.methodLink RL 141 yX12_asks_ ∈ TT := tt_8 (i := 69) rfl rfl
theorem tw_8_70 : Cond.instanceMethod yX12_asks_ ∈ TT := tt_8 (i := 70) rfl rfl
theorem tw_8_71 : Cond.selects RX12 yX12_asks_ yX12_asks_ ∈ TT := tt_8 (i := 71) rfl rfl
theorem tw_4_203 : Cond.code yX11_brings cX11_brings 2 (some .int) ∈ TT := tt_4 (i := 203) rfl rfl
theorem tw_4_200 : Cond.methodLink RL 142 yX11_brings ∈ TT := tt_4 (i := 200) rfl rfl
theorem tw_4_201 : Cond.instanceMethod yX11_brings ∈ TT := tt_4 (i := 201) rfl rfl
theorem tw_4_202 : Cond.selects RX11 yX11_brings yX11_brings ∈ TT := tt_4 (i := 202) rfl rfl
theorem tw_8_80 : Cond.code yX12_brings cX12_brings 2 (some .int) ∈ TT := tt_8 (i := 80) rfl rfl
theorem tw_8_77 : Cond.methodLink RL 145 yX12_brings ∈ TT := tt_8 (i := 77) rfl rfl
theorem tw_8_78 : Cond.instanceMethod yX12_brings ∈ TT := tt_8 (i := 78) rfl rfl
theorem tw_8_79 : Cond.selects RX12 yX12_brings yX12_brings ∈ TT := tt_8 (i := 79) rfl rfl
theorem tw_4_208 : Cond.code yX11_fits cX11_fits 3 (some .int) ∈ TT := tt_4 (i := 208) rfl rfl
theorem tw_4_205 : Cond.methodLink RL 146 yX11_fits ∈ TT := tt_4 (i := 205) rfl rfl
theorem tw_4_206 : Cond.instanceMethod yX11_fits ∈ TT := tt_4 (i := 206) rfl rfl
theorem tw_4_207 : Cond.selects RX11 yX11_fits yX11_fits ∈ TT := tt_4 (i := 207) rfl rfl
theorem tw_8_84 : Cond.code yX12_fits cX12_fits 3 (some .int) ∈ TT := tt_8 (i := 84) rfl rfl
theorem tw_8_81 : Cond.methodLink RL 149 yX12_fits ∈ TT := tt_8 (i := 81) rfl rfl
theorem tw_8_82 : Cond.instanceMethod yX12_fits ∈ TT := tt_8 (i := 82) rfl rfl
theorem tw_8_83 : Cond.selects RX12 yX12_fits yX12_fits ∈ TT := tt_8 (i := 83) rfl rfl
theorem tw_5_9 : Cond.code yX11_held cX11_held 5 (some .int) ∈ TT := tt_5 (i := 9) rfl rfl
theorem tw_5_6 : Cond.methodLink RL 150 yX11_held ∈ TT := tt_5 (i := 6) rfl rfl
theorem tw_5_7 : Cond.instanceMethod yX11_held ∈ TT := tt_5 (i := 7) rfl rfl
theorem tw_5_8 : Cond.selects RX11 yX11_held yX11_held ∈ TT := tt_5 (i := 8) rfl rfl
theorem tw_8_96 : Cond.code yX12_held cX12_held 5 (some .int) ∈ TT := tt_8 (i := 96) rfl rfl
theorem tw_8_93 : Cond.methodLink RL 153 yX12_held ∈ TT := tt_8 (i := 93) rfl rfl
theorem tw_8_94 : Cond.instanceMethod yX12_held ∈ TT := tt_8 (i := 94) rfl rfl
theorem tw_8_95 : Cond.selects RX12 yX12_held yX12_held ∈ TT := tt_8 (i := 95) rfl rfl
theorem tw_5_17 : Cond.code yX11_fit cX11_fit 4 (some .int) ∈ TT := tt_5 (i := 17) rfl rfl
theorem tw_5_14 : Cond.methodLink RL 154 yX11_fit ∈ TT := tt_5 (i := 14) rfl rfl
theorem tw_5_15 : Cond.instanceMethod yX11_fit ∈ TT := tt_5 (i := 15) rfl rfl
theorem tw_5_16 : Cond.selects RX11 yX11_fit yX11_fit ∈ TT := tt_5 (i := 16) rfl rfl
theorem tw_8_100 : Cond.code yX12_fit cX12_fit 5 (some .int) ∈ TT := tt_8 (i := 100) rfl rfl
theorem tw_8_97 : Cond.methodLink RL 157 yX12_fit ∈ TT := tt_8 (i := 97) rfl rfl
theorem tw_8_98 : Cond.instanceMethod yX12_fit ∈ TT := tt_8 (i := 98) rfl rfl
theorem tw_8_99 : Cond.selects RX12 yX12_fit yX12_fit ∈ TT := tt_8 (i := 99) rfl rfl
theorem tw_5_18 : Cond.methodLink RL 158 yX11_ask ∈ TT := tt_5 (i := 18) rfl rfl
theorem tw_8_104 : Cond.code yX12_ask cX12_ask 3 (some .int) ∈ TT := tt_8 (i := 104) rfl rfl
theorem tw_8_101 : Cond.methodLink RL 161 yX12_ask ∈ TT := tt_8 (i := 101) rfl rfl
theorem tw_8_102 : Cond.instanceMethod yX12_ask ∈ TT := tt_8 (i := 102) rfl rfl
theorem tw_8_103 : Cond.selects RX12 yX12_ask yX12_ask ∈ TT := tt_8 (i := 103) rfl rfl
theorem tw_5_35 : Cond.code yX11_leaves cX11_leaves 3 (some .int) ∈ TT := tt_5 (i := 35) rfl rfl
theorem tw_5_32 : Cond.methodLink RL 162 yX11_leaves ∈ TT := tt_5 (i := 32) rfl rfl
theorem tw_5_33 : Cond.instanceMethod yX11_leaves ∈ TT := tt_5 (i := 33) rfl rfl
theorem tw_5_34 : Cond.selects RX11 yX11_leaves yX11_leaves ∈ TT := tt_5 (i := 34) rfl rfl
theorem tw_8_112 : Cond.code yX12_leaves cX12_leaves 3 (some .int) ∈ TT := tt_8 (i := 112) rfl rfl
theorem tw_8_109 : Cond.methodLink RL 165 yX12_leaves ∈ TT := tt_8 (i := 109) rfl rfl
theorem tw_8_110 : Cond.instanceMethod yX12_leaves ∈ TT := tt_8 (i := 110) rfl rfl
theorem tw_8_111 : Cond.selects RX12 yX12_leaves yX12_leaves ∈ TT := tt_8 (i := 111) rfl rfl
theorem tw_5_41 : Cond.code yX11_place cX11_place 2 (some .int) ∈ TT := tt_5 (i := 41) rfl rfl
theorem tw_5_38 : Cond.methodLink RL 166 yX11_place ∈ TT := tt_5 (i := 38) rfl rfl
theorem tw_5_39 : Cond.instanceMethod yX11_place ∈ TT := tt_5 (i := 39) rfl rfl
theorem tw_5_40 : Cond.selects RX11 yX11_place yX11_place ∈ TT := tt_5 (i := 40) rfl rfl
theorem tw_8_116 : Cond.code yX12_place cX12_place 2 (some .int) ∈ TT := tt_8 (i := 116) rfl rfl
theorem tw_8_113 : Cond.methodLink RL 169 yX12_place ∈ TT := tt_8 (i := 113) rfl rfl
theorem tw_8_114 : Cond.instanceMethod yX12_place ∈ TT := tt_8 (i := 114) rfl rfl
theorem tw_8_115 : Cond.selects RX12 yX12_place yX12_place ∈ TT := tt_8 (i := 115) rfl rfl
theorem tw_5_63 : Cond.code yX11_places cX11_places 2 (some .int) ∈ TT := tt_5 (i := 63) rfl rfl
theorem tw_5_60 : Cond.methodLink RL 170 yX11_places ∈ TT := tt_5 (i := 60) rfl rfl
theorem tw_5_61 : Cond.instanceMethod yX11_places ∈ TT := tt_5 (i := 61) rfl rfl
theorem tw_5_62 : Cond.selects RX11 yX11_places yX11_places ∈ TT := tt_5 (i := 62) rfl rfl
theorem tw_8_128 : Cond.code yX12_places cX12_places 2 (some .int) ∈ TT := tt_8 (i := 128) rfl rfl
theorem tw_8_125 : Cond.methodLink RL 173 yX12_places ∈ TT := tt_8 (i := 125) rfl rfl
theorem tw_8_126 : Cond.instanceMethod yX12_places ∈ TT := tt_8 (i := 126) rfl rfl
theorem tw_8_127 : Cond.selects RX12 yX12_places yX12_places ∈ TT := tt_8 (i := 127) rfl rfl
theorem tw_5_67 : Cond.code yX11_soon cX11_soon 2 (some .int) ∈ TT := tt_5 (i := 67) rfl rfl
theorem tw_5_64 : Cond.methodLink RL 174 yX11_soon ∈ TT := tt_5 (i := 64) rfl rfl
theorem tw_5_65 : Cond.instanceMethod yX11_soon ∈ TT := tt_5 (i := 65) rfl rfl
theorem tw_5_66 : Cond.selects RX11 yX11_soon yX11_soon ∈ TT := tt_5 (i := 66) rfl rfl
theorem tw_8_132 : Cond.code yX12_soon cX12_soon 2 (some .int) ∈ TT := tt_8 (i := 132) rfl rfl
theorem tw_8_129 : Cond.methodLink RL 177 yX12_soon ∈ TT := tt_8 (i := 129) rfl rfl
theorem tw_8_130 : Cond.instanceMethod yX12_soon ∈ TT := tt_8 (i := 130) rfl rfl
theorem tw_8_131 : Cond.selects RX12 yX12_soon yX12_soon ∈ TT := tt_8 (i := 131) rfl rfl
theorem tw_5_71 : Cond.code yX11_carts cX11_carts 2 (some .int) ∈ TT := tt_5 (i := 71) rfl rfl
theorem tw_5_68 : Cond.methodLink RL 178 yX11_carts ∈ TT := tt_5 (i := 68) rfl rfl
theorem tw_5_69 : Cond.instanceMethod yX11_carts ∈ TT := tt_5 (i := 69) rfl rfl
theorem tw_5_70 : Cond.selects RX11 yX11_carts yX11_carts ∈ TT := tt_5 (i := 70) rfl rfl
theorem tw_8_136 : Cond.code yX12_carts cX12_carts 2 (some .int) ∈ TT := tt_8 (i := 136) rfl rfl
theorem tw_8_133 : Cond.methodLink RL 181 yX12_carts ∈ TT := tt_8 (i := 133) rfl rfl
theorem tw_8_134 : Cond.instanceMethod yX12_carts ∈ TT := tt_8 (i := 134) rfl rfl
theorem tw_8_135 : Cond.selects RX12 yX12_carts yX12_carts ∈ TT := tt_8 (i := 135) rfl rfl
theorem tw_5_88 : Cond.code yX11_cart cX11_cart 4 (some .int) ∈ TT := tt_5 (i := 88) rfl rfl
theorem tw_5_85 : Cond.methodLink RL 182 yX11_cart ∈ TT := tt_5 (i := 85) rfl rfl
theorem tw_5_86 : Cond.instanceMethod yX11_cart ∈ TT := tt_5 (i := 86) rfl rfl
theorem tw_5_87 : Cond.selects RX11 yX11_cart yX11_cart ∈ TT := tt_5 (i := 87) rfl rfl
theorem tw_8_153 : Cond.code yX12_cart cX12_cart 6 (some .int) ∈ TT := tt_8 (i := 153) rfl rfl
theorem tw_8_150 : Cond.methodLink RL 185 yX12_cart ∈ TT := tt_8 (i := 150) rfl rfl
theorem tw_8_151 : Cond.instanceMethod yX12_cart ∈ TT := tt_8 (i := 151) rfl rfl
theorem tw_8_152 : Cond.selects RX12 yX12_cart yX12_cart ∈ TT := tt_8 (i := 152) rfl rfl
theorem tw_5_96 : Cond.code yX11_wins cX11_wins 1 (some .int) ∈ TT := tt_5 (i := 96) rfl rfl
theorem tw_5_93 : Cond.methodLink RL 186 yX11_wins ∈ TT := tt_5 (i := 93) rfl rfl
theorem tw_5_94 : Cond.instanceMethod yX11_wins ∈ TT := tt_5 (i := 94) rfl rfl
theorem tw_5_95 : Cond.selects RX11 yX11_wins yX11_wins ∈ TT := tt_5 (i := 95) rfl rfl
theorem tw_8_157 : Cond.code yX12_wins cX12_wins 1 (some .int) ∈ TT := tt_8 (i := 157) rfl rfl
theorem tw_8_154 : Cond.methodLink RL 189 yX12_wins ∈ TT := tt_8 (i := 154) rfl rfl
theorem tw_8_155 : Cond.instanceMethod yX12_wins ∈ TT := tt_8 (i := 155) rfl rfl
theorem tw_8_156 : Cond.selects RX12 yX12_wins yX12_wins ∈ TT := tt_8 (i := 156) rfl rfl
theorem tw_5_104 : Cond.code yX11_price cX11_price 3 (some .int) ∈ TT := tt_5 (i := 104) rfl rfl
theorem tw_5_101 : Cond.methodLink RL 190 yX11_price ∈ TT := tt_5 (i := 101) rfl rfl
theorem tw_5_102 : Cond.instanceMethod yX11_price ∈ TT := tt_5 (i := 102) rfl rfl
theorem tw_5_103 : Cond.selects RX11 yX11_price yX11_price ∈ TT := tt_5 (i := 103) rfl rfl
theorem tw_8_165 : Cond.code yX12_price cX12_price 4 (some .int) ∈ TT := tt_8 (i := 165) rfl rfl
theorem tw_8_162 : Cond.methodLink RL 193 yX12_price ∈ TT := tt_8 (i := 162) rfl rfl
theorem tw_8_163 : Cond.instanceMethod yX12_price ∈ TT := tt_8 (i := 163) rfl rfl
theorem tw_8_164 : Cond.selects RX12 yX12_price yX12_price ∈ TT := tt_8 (i := 164) rfl rfl
theorem tw_5_108 : Cond.code yX11_rests cX11_rests 1 (some .int) ∈ TT := tt_5 (i := 108) rfl rfl
theorem tw_5_105 : Cond.methodLink RL 194 yX11_rests ∈ TT := tt_5 (i := 105) rfl rfl
theorem tw_5_106 : Cond.instanceMethod yX11_rests ∈ TT := tt_5 (i := 106) rfl rfl
theorem tw_5_107 : Cond.selects RX11 yX11_rests yX11_rests ∈ TT := tt_5 (i := 107) rfl rfl
theorem tw_8_169 : Cond.code yX12_rests cX12_rests 6 (some .int) ∈ TT := tt_8 (i := 169) rfl rfl
theorem tw_8_166 : Cond.methodLink RL 197 yX12_rests ∈ TT := tt_8 (i := 166) rfl rfl
theorem tw_8_167 : Cond.instanceMethod yX12_rests ∈ TT := tt_8 (i := 167) rfl rfl
theorem tw_8_168 : Cond.selects RX12 yX12_rests yX12_rests ∈ TT := tt_8 (i := 168) rfl rfl
theorem tw_5_133 : Cond.code yX11_clerk cX11_clerk 1 (some .int) ∈ TT := tt_5 (i := 133) rfl rfl
theorem tw_5_130 : Cond.methodLink RL 198 yX11_clerk ∈ TT := tt_5 (i := 130) rfl rfl
theorem tw_5_131 : Cond.instanceMethod yX11_clerk ∈ TT := tt_5 (i := 131) rfl rfl
theorem tw_5_132 : Cond.selects RX11 yX11_clerk yX11_clerk ∈ TT := tt_5 (i := 132) rfl rfl
theorem tw_8_177 : Cond.code yX12_clerk cX12_clerk 3 (some .int) ∈ TT := tt_8 (i := 177) rfl rfl
theorem tw_8_174 : Cond.methodLink RL 201 yX12_clerk ∈ TT := tt_8 (i := 174) rfl rfl
theorem tw_8_175 : Cond.instanceMethod yX12_clerk ∈ TT := tt_8 (i := 175) rfl rfl
theorem tw_8_176 : Cond.selects RX12 yX12_clerk yX12_clerk ∈ TT := tt_8 (i := 176) rfl rfl
theorem tw_5_141 : Cond.code yX11_chance cX11_chance 4 (some .long) ∈ TT := tt_5 (i := 141) rfl rfl
theorem tw_5_138 : Cond.methodLink RL 202 yX11_chance ∈ TT := tt_5 (i := 138) rfl rfl
theorem tw_5_139 : Cond.instanceMethod yX11_chance ∈ TT := tt_5 (i := 139) rfl rfl
theorem tw_5_140 : Cond.selects RX11 yX11_chance yX11_chance ∈ TT := tt_5 (i := 140) rfl rfl
theorem tw_8_185 : Cond.code yX12_chance cX12_chance 7 (some .long) ∈ TT := tt_8 (i := 185) rfl rfl
theorem tw_8_182 : Cond.methodLink RL 206 yX12_chance ∈ TT := tt_8 (i := 182) rfl rfl
theorem tw_8_183 : Cond.instanceMethod yX12_chance ∈ TT := tt_8 (i := 183) rfl rfl
theorem tw_8_184 : Cond.selects RX12 yX12_chance yX12_chance ∈ TT := tt_8 (i := 184) rfl rfl
theorem tw_5_170 : Cond.code yX11_sure cX11_sure 3 (some .int) ∈ TT := tt_5 (i := 170) rfl rfl
theorem tw_5_167 : Cond.methodLink RL 207 yX11_sure ∈ TT := tt_5 (i := 167) rfl rfl
theorem tw_5_168 : Cond.instanceMethod yX11_sure ∈ TT := tt_5 (i := 168) rfl rfl
theorem tw_5_169 : Cond.selects RX11 yX11_sure yX11_sure ∈ TT := tt_5 (i := 169) rfl rfl
theorem tw_8_198 : Cond.code yX12_sure cX12_sure 6 (some .int) ∈ TT := tt_8 (i := 198) rfl rfl
theorem tw_8_195 : Cond.methodLink RL 210 yX12_sure ∈ TT := tt_8 (i := 195) rfl rfl
theorem tw_8_196 : Cond.instanceMethod yX12_sure ∈ TT := tt_8 (i := 196) rfl rfl
theorem tw_8_197 : Cond.selects RX12 yX12_sure yX12_sure ∈ TT := tt_8 (i := 197) rfl rfl
theorem tw_5_179 : Cond.code yX11_bar cX11_bar 4 (some .int) ∈ TT := tt_5 (i := 179) rfl rfl
theorem tw_5_176 : Cond.methodLink RL 211 yX11_bar ∈ TT := tt_5 (i := 176) rfl rfl
theorem tw_5_177 : Cond.instanceMethod yX11_bar ∈ TT := tt_5 (i := 177) rfl rfl
theorem tw_5_178 : Cond.selects RX11 yX11_bar yX11_bar ∈ TT := tt_5 (i := 178) rfl rfl
theorem tw_8_203 : Cond.code yX12_bar cX12_bar 3 (some .int) ∈ TT := tt_8 (i := 203) rfl rfl
theorem tw_8_200 : Cond.methodLink RL 214 yX12_bar ∈ TT := tt_8 (i := 200) rfl rfl
theorem tw_8_201 : Cond.instanceMethod yX12_bar ∈ TT := tt_8 (i := 201) rfl rfl
theorem tw_8_202 : Cond.selects RX12 yX12_bar yX12_bar ∈ TT := tt_8 (i := 202) rfl rfl
theorem tw_5_188 : Cond.code yX11_holds cX11_holds 4 (some .int) ∈ TT := tt_5 (i := 188) rfl rfl
theorem tw_5_185 : Cond.methodLink RL 215 yX11_holds ∈ TT := tt_5 (i := 185) rfl rfl
theorem tw_5_186 : Cond.instanceMethod yX11_holds ∈ TT := tt_5 (i := 186) rfl rfl
theorem tw_5_187 : Cond.selects RX11 yX11_holds yX11_holds ∈ TT := tt_5 (i := 187) rfl rfl
theorem tw_8_215 : Cond.code yX12_holds cX12_holds 3 (some .int) ∈ TT := tt_8 (i := 215) rfl rfl
theorem tw_8_212 : Cond.methodLink RL 218 yX12_holds ∈ TT := tt_8 (i := 212) rfl rfl
theorem tw_8_213 : Cond.instanceMethod yX12_holds ∈ TT := tt_8 (i := 213) rfl rfl
theorem tw_8_214 : Cond.selects RX12 yX12_holds yX12_holds ∈ TT := tt_8 (i := 214) rfl rfl
theorem tw_5_192 : Cond.code yX11_undo cX11_undo 1 (some .int) ∈ TT := tt_5 (i := 192) rfl rfl
theorem tw_5_189 : Cond.methodLink RL 219 yX11_undo ∈ TT := tt_5 (i := 189) rfl rfl
theorem tw_5_190 : Cond.instanceMethod yX11_undo ∈ TT := tt_5 (i := 190) rfl rfl
theorem tw_5_191 : Cond.selects RX11 yX11_undo yX11_undo ∈ TT := tt_5 (i := 191) rfl rfl
theorem tw_8_219 : Cond.code yX12_undo cX12_undo 1 (some .int) ∈ TT := tt_8 (i := 219) rfl rfl
theorem tw_8_216 : Cond.methodLink RL 222 yX12_undo ∈ TT := tt_8 (i := 216) rfl rfl
theorem tw_8_217 : Cond.instanceMethod yX12_undo ∈ TT := tt_8 (i := 217) rfl rfl
theorem tw_8_218 : Cond.selects RX12 yX12_undo yX12_undo ∈ TT := tt_8 (i := 218) rfl rfl
theorem tw_5_201 : Cond.code yX11_anew cX11_anew 3 (some .int) ∈ TT := tt_5 (i := 201) rfl rfl
theorem tw_5_198 : Cond.methodLink RL 223 yX11_anew ∈ TT := tt_5 (i := 198) rfl rfl
theorem tw_5_199 : Cond.instanceMethod yX11_anew ∈ TT := tt_5 (i := 199) rfl rfl
theorem tw_5_200 : Cond.selects RX11 yX11_anew yX11_anew ∈ TT := tt_5 (i := 200) rfl rfl
theorem tw_8_223 : Cond.code yX12_anew cX12_anew 2 (some .int) ∈ TT := tt_8 (i := 223) rfl rfl
theorem tw_8_220 : Cond.methodLink RL 226 yX12_anew ∈ TT := tt_8 (i := 220) rfl rfl
theorem tw_8_221 : Cond.instanceMethod yX12_anew ∈ TT := tt_8 (i := 221) rfl rfl
theorem tw_8_222 : Cond.selects RX12 yX12_anew yX12_anew ∈ TT := tt_8 (i := 222) rfl rfl
theorem tw_5_205 : Cond.code yX11_drawn cX11_drawn 4 (some .int) ∈ TT := tt_5 (i := 205) rfl rfl
theorem tw_5_202 : Cond.methodLink RL 227 yX11_drawn ∈ TT := tt_5 (i := 202) rfl rfl
theorem tw_5_203 : Cond.instanceMethod yX11_drawn ∈ TT := tt_5 (i := 203) rfl rfl
theorem tw_5_204 : Cond.selects RX11 yX11_drawn yX11_drawn ∈ TT := tt_5 (i := 204) rfl rfl
theorem tw_8_227 : Cond.code yX12_drawn cX12_drawn 4 (some .int) ∈ TT := tt_8 (i := 227) rfl rfl
theorem tw_8_224 : Cond.methodLink RL 230 yX12_drawn ∈ TT := tt_8 (i := 224) rfl rfl
theorem tw_8_225 : Cond.instanceMethod yX12_drawn ∈ TT := tt_8 (i := 225) rfl rfl
theorem tw_8_226 : Cond.selects RX12 yX12_drawn yX12_drawn ∈ TT := tt_8 (i := 226) rfl rfl
theorem tw_5_220 : Cond.code yX11_luck cX11_luck 7 (some .int) ∈ TT := tt_5 (i := 220) rfl rfl
theorem tw_5_217 : Cond.methodLink RL 231 yX11_luck ∈ TT := tt_5 (i := 217) rfl rfl
theorem tw_5_218 : Cond.instanceMethod yX11_luck ∈ TT := tt_5 (i := 218) rfl rfl
theorem tw_5_219 : Cond.selects RX11 yX11_luck yX11_luck ∈ TT := tt_5 (i := 219) rfl rfl
theorem tw_9_4 : Cond.code yX12_luck cX12_luck 7 (some .int) ∈ TT := tt_9 (i := 4) rfl rfl
theorem tw_9_1 : Cond.methodLink RL 235 yX12_luck ∈ TT := tt_9 (i := 1) rfl rfl
theorem tw_9_2 : Cond.instanceMethod yX12_luck ∈ TT := tt_9 (i := 2) rfl rfl
theorem tw_9_3 : Cond.selects RX12 yX12_luck yX12_luck ∈ TT := tt_9 (i := 3) rfl rfl
theorem tw_5_224 : Cond.code yX11_tell cX11_tell 6 (some .int) ∈ TT := tt_5 (i := 224) rfl rfl
theorem tw_5_221 : Cond.methodLink RL 236 yX11_tell ∈ TT := tt_5 (i := 221) rfl rfl
theorem tw_5_222 : Cond.instanceMethod yX11_tell ∈ TT := tt_5 (i := 222) rfl rfl
theorem tw_5_223 : Cond.selects RX11 yX11_tell yX11_tell ∈ TT := tt_5 (i := 223) rfl rfl
theorem tw_9_9 : Cond.code yX12_tell cX12_tell 5 (some .int) ∈ TT := tt_9 (i := 9) rfl rfl
theorem tw_9_6 : Cond.methodLink RL 239 yX12_tell ∈ TT := tt_9 (i := 6) rfl rfl
theorem tw_9_7 : Cond.instanceMethod yX12_tell ∈ TT := tt_9 (i := 7) rfl rfl
theorem tw_9_8 : Cond.selects RX12 yX12_tell yX12_tell ∈ TT := tt_9 (i := 8) rfl rfl
theorem tw_5_228 : Cond.code yX11_count cX11_count 2 (some .int) ∈ TT := tt_5 (i := 228) rfl rfl
theorem tw_5_225 : Cond.methodLink RL 240 yX11_count ∈ TT := tt_5 (i := 225) rfl rfl
theorem tw_5_226 : Cond.instanceMethod yX11_count ∈ TT := tt_5 (i := 226) rfl rfl
theorem tw_5_227 : Cond.selects RX11 yX11_count yX11_count ∈ TT := tt_5 (i := 227) rfl rfl
theorem tw_9_14 : Cond.code yX12_count cX12_count 4 (some .int) ∈ TT := tt_9 (i := 14) rfl rfl
theorem tw_9_11 : Cond.methodLink RL 243 yX12_count ∈ TT := tt_9 (i := 11) rfl rfl
theorem tw_9_12 : Cond.instanceMethod yX12_count ∈ TT := tt_9 (i := 12) rfl rfl
theorem tw_9_13 : Cond.selects RX12 yX12_count yX12_count ∈ TT := tt_9 (i := 13) rfl rfl
theorem tw_5_237 : Cond.code yX11_image cX11_image 2 (some .int) ∈ TT := tt_5 (i := 237) rfl rfl
theorem tw_5_234 : Cond.methodLink RL 244 yX11_image ∈ TT := tt_5 (i := 234) rfl rfl
theorem tw_5_235 : Cond.instanceMethod yX11_image ∈ TT := tt_5 (i := 235) rfl rfl
theorem tw_5_236 : Cond.selects RX11 yX11_image yX11_image ∈ TT := tt_5 (i := 236) rfl rfl
theorem tw_9_19 : Cond.code yX12_image cX12_image 2 (some .int) ∈ TT := tt_9 (i := 19) rfl rfl
theorem tw_9_16 : Cond.methodLink RL 247 yX12_image ∈ TT := tt_9 (i := 16) rfl rfl
theorem tw_9_17 : Cond.instanceMethod yX12_image ∈ TT := tt_9 (i := 17) rfl rfl
theorem tw_9_18 : Cond.selects RX12 yX12_image yX12_image ∈ TT := tt_9 (i := 18) rfl rfl
theorem tw_6_11 : Cond.code yX11_back cX11_back 2 (some .int) ∈ TT := tt_6 (i := 11) rfl rfl
theorem tw_6_8 : Cond.methodLink RL 248 yX11_back ∈ TT := tt_6 (i := 8) rfl rfl
theorem tw_6_9 : Cond.instanceMethod yX11_back ∈ TT := tt_6 (i := 9) rfl rfl
theorem tw_6_10 : Cond.selects RX11 yX11_back yX11_back ∈ TT := tt_6 (i := 10) rfl rfl
theorem tw_9_23 : Cond.code yX12_back cX12_back 2 (some .int) ∈ TT := tt_9 (i := 23) rfl rfl
theorem tw_9_20 : Cond.methodLink RL 251 yX12_back ∈ TT := tt_9 (i := 20) rfl rfl
theorem tw_9_21 : Cond.instanceMethod yX12_back ∈ TT := tt_9 (i := 21) rfl rfl
theorem tw_9_22 : Cond.selects RX12 yX12_back yX12_back ∈ TT := tt_9 (i := 22) rfl rfl
theorem tw_6_15 : Cond.code yX11_row cX11_row 4 (some .int) ∈ TT := tt_6 (i := 15) rfl rfl
theorem tw_6_12 : Cond.methodLink RL 252 yX11_row ∈ TT := tt_6 (i := 12) rfl rfl
theorem tw_6_13 : Cond.instanceMethod yX11_row ∈ TT := tt_6 (i := 13) rfl rfl
theorem tw_6_14 : Cond.selects RX11 yX11_row yX11_row ∈ TT := tt_6 (i := 14) rfl rfl
theorem tw_6_183 : Cond.code yX12_row cX12_row 5 (some .int) ∈ TT := tt_6 (i := 183) rfl rfl
theorem tw_6_180 : Cond.methodLink RL 255 yX12_row ∈ TT := tt_6 (i := 180) rfl rfl
theorem tw_6_181 : Cond.instanceMethod yX12_row ∈ TT := tt_6 (i := 181) rfl rfl
theorem tw_6_182 : Cond.selects RX12 yX12_row yX12_row ∈ TT := tt_6 (i := 182) rfl rfl
theorem tw_9_24 : Cond.constantLong RL 256 (4294967295) ∈ TT := tt_9 (i := 24) rfl rfl
theorem tw_6_23 : Cond.code yX11_write cX11_write 5 (some .int) ∈ TT := tt_6 (i := 23) rfl rfl
theorem tw_6_20 : Cond.methodLink RL 258 yX11_write ∈ TT := tt_6 (i := 20) rfl rfl
theorem tw_6_21 : Cond.instanceMethod yX11_write ∈ TT := tt_6 (i := 21) rfl rfl
theorem tw_6_22 : Cond.selects RX11 yX11_write yX11_write ∈ TT := tt_6 (i := 22) rfl rfl
theorem tw_6_194 : Cond.code yX12_write cX12_write 5 (some .int) ∈ TT := tt_6 (i := 194) rfl rfl
theorem tw_6_191 : Cond.methodLink RL 262 yX12_write ∈ TT := tt_6 (i := 191) rfl rfl
theorem tw_6_192 : Cond.instanceMethod yX12_write ∈ TT := tt_6 (i := 192) rfl rfl
theorem tw_6_193 : Cond.selects RX12 yX12_write yX12_write ∈ TT := tt_6 (i := 193) rfl rfl
theorem tw_6_32 : Cond.code yX11_paste cX11_paste 6 (some .int) ∈ TT := tt_6 (i := 32) rfl rfl
theorem tw_6_29 : Cond.methodLink RL 263 yX11_paste ∈ TT := tt_6 (i := 29) rfl rfl
theorem tw_6_30 : Cond.instanceMethod yX11_paste ∈ TT := tt_6 (i := 30) rfl rfl
theorem tw_6_31 : Cond.selects RX11 yX11_paste yX11_paste ∈ TT := tt_6 (i := 31) rfl rfl
theorem tw_6_201 : Cond.code yX12_paste cX12_paste 7 (some .int) ∈ TT := tt_6 (i := 201) rfl rfl
theorem tw_6_198 : Cond.methodLink RL 266 yX12_paste ∈ TT := tt_6 (i := 198) rfl rfl
theorem tw_6_199 : Cond.instanceMethod yX12_paste ∈ TT := tt_6 (i := 199) rfl rfl
theorem tw_6_200 : Cond.selects RX12 yX12_paste yX12_paste ∈ TT := tt_6 (i := 200) rfl rfl
theorem tw_1_22 : Cond.classLink RL 7 RX11 ∈ TT := tt_1 (i := 22) rfl rfl
theorem tw_1_23 : Cond.instantiable RX11 13 ∈ TT := tt_1 (i := 23) rfl rfl
theorem tw_1_26 : Cond.code yX11_init cX11_init 1 none ∈ TT := tt_1 (i := 26) rfl rfl
theorem tw_1_24 : Cond.methodLink RL 9 yX11_init ∈ TT := tt_1 (i := 24) rfl rfl
theorem tw_1_25 : Cond.instanceMethod yX11_init ∈ TT := tt_1 (i := 25) rfl rfl
theorem tw_6_47 : Cond.classLink RL 10 RX12 ∈ TT := tt_6 (i := 47) rfl rfl
theorem tw_6_48 : Cond.instantiable RX12 42 ∈ TT := tt_6 (i := 48) rfl rfl
theorem tw_6_51 : Cond.code yX12_init cX12_init 2 none ∈ TT := tt_6 (i := 51) rfl rfl
theorem tw_6_49 : Cond.methodLink RL 12 yX12_init ∈ TT := tt_6 (i := 49) rfl rfl
theorem tw_6_50 : Cond.instanceMethod yX12_init ∈ TT := tt_6 (i := 50) rfl rfl
theorem hdV_X11_feed : yX11_feed.cls = RX11 ∧ yX11_feed.cls ≠ "java/lang/invoke/MethodHandle" ∧ yX11_feed.cls ≠ "java/lang/invoke/VarHandle" ∧ (parseMethodDescriptor yX11_feed.desc).map (fun d => d.parameters.length) = some 5 := by decide +kernel
theorem hdV_X12_feed : yX12_feed.cls = RX12 ∧ yX12_feed.cls ≠ "java/lang/invoke/MethodHandle" ∧ yX12_feed.cls ≠ "java/lang/invoke/VarHandle" ∧ (parseMethodDescriptor yX12_feed.desc).map (fun d => d.parameters.length) = some 5 := by decide +kernel
theorem hdV_X11_end : yX11_end.cls = RX11 ∧ yX11_end.cls ≠ "java/lang/invoke/MethodHandle" ∧ yX11_end.cls ≠ "java/lang/invoke/VarHandle" ∧ (parseMethodDescriptor yX11_end.desc).map (fun d => d.parameters.length) = some 1 := by decide +kernel
theorem hdV_X12_end : yX12_end.cls = RX12 ∧ yX12_end.cls ≠ "java/lang/invoke/MethodHandle" ∧ yX12_end.cls ≠ "java/lang/invoke/VarHandle" ∧ (parseMethodDescriptor yX12_end.desc).map (fun d => d.parameters.length) = some 1 := by decide +kernel
theorem hdV_X11_town : yX11_town.cls = RX11 ∧ yX11_town.cls ≠ "java/lang/invoke/MethodHandle" ∧ yX11_town.cls ≠ "java/lang/invoke/VarHandle" ∧ (parseMethodDescriptor yX11_town.desc).map (fun d => d.parameters.length) = some 0 := by decide +kernel
theorem hdV_X12_town : yX12_town.cls = RX12 ∧ yX12_town.cls ≠ "java/lang/invoke/MethodHandle" ∧ yX12_town.cls ≠ "java/lang/invoke/VarHandle" ∧ (parseMethodDescriptor yX12_town.desc).map (fun d => d.parameters.length) = some 0 := by decide +kernel
theorem hdV_X11_fault : yX11_fault.cls = RX11 ∧ yX11_fault.cls ≠ "java/lang/invoke/MethodHandle" ∧ yX11_fault.cls ≠ "java/lang/invoke/VarHandle" ∧ (parseMethodDescriptor yX11_fault.desc).map (fun d => d.parameters.length) = some 1 := by decide +kernel
theorem hdV_X12_fault : yX12_fault.cls = RX12 ∧ yX12_fault.cls ≠ "java/lang/invoke/MethodHandle" ∧ yX12_fault.cls ≠ "java/lang/invoke/VarHandle" ∧ (parseMethodDescriptor yX12_fault.desc).map (fun d => d.parameters.length) = some 1 := by decide +kernel
theorem hdV_X11_lane : yX11_lane.cls = RX11 ∧ yX11_lane.cls ≠ "java/lang/invoke/MethodHandle" ∧ yX11_lane.cls ≠ "java/lang/invoke/VarHandle" ∧ (parseMethodDescriptor yX11_lane.desc).map (fun d => d.parameters.length) = some 2 := by decide +kernel
theorem hdV_X12_lane : yX12_lane.cls = RX12 ∧ yX12_lane.cls ≠ "java/lang/invoke/MethodHandle" ∧ yX12_lane.cls ≠ "java/lang/invoke/VarHandle" ∧ (parseMethodDescriptor yX12_lane.desc).map (fun d => d.parameters.length) = some 2 := by decide +kernel
theorem hdV_X11_gate : yX11_gate.cls = RX11 ∧ yX11_gate.cls ≠ "java/lang/invoke/MethodHandle" ∧ yX11_gate.cls ≠ "java/lang/invoke/VarHandle" ∧ (parseMethodDescriptor yX11_gate.desc).map (fun d => d.parameters.length) = some 2 := by decide +kernel
theorem hdV_X12_gate : yX12_gate.cls = RX12 ∧ yX12_gate.cls ≠ "java/lang/invoke/MethodHandle" ∧ yX12_gate.cls ≠ "java/lang/invoke/VarHandle" ∧ (parseMethodDescriptor yX12_gate.desc).map (fun d => d.parameters.length) = some 2 := by decide +kernel
theorem hdV_X11_house : yX11_house.cls = RX11 ∧ yX11_house.cls ≠ "java/lang/invoke/MethodHandle" ∧ yX11_house.cls ≠ "java/lang/invoke/VarHandle" ∧ (parseMethodDescriptor yX11_house.desc).map (fun d => d.parameters.length) = some 2 := by decide +kernel
theorem hdV_X12_house : yX12_house.cls = RX12 ∧ yX12_house.cls ≠ "java/lang/invoke/MethodHandle" ∧ yX12_house.cls ≠ "java/lang/invoke/VarHandle" ∧ (parseMethodDescriptor yX12_house.desc).map (fun d => d.parameters.length) = some 2 := by decide +kernel
theorem hdV_X11_comes : yX11_comes.cls = RX11 ∧ yX11_comes.cls ≠ "java/lang/invoke/MethodHandle" ∧ yX11_comes.cls ≠ "java/lang/invoke/VarHandle" ∧ (parseMethodDescriptor yX11_comes.desc).map (fun d => d.parameters.length) = some 1 := by decide +kernel
theorem hdV_X12_comes : yX12_comes.cls = RX12 ∧ yX12_comes.cls ≠ "java/lang/invoke/MethodHandle" ∧ yX12_comes.cls ≠ "java/lang/invoke/VarHandle" ∧ (parseMethodDescriptor yX12_comes.desc).map (fun d => d.parameters.length) = some 1 := by decide +kernel
theorem hdV_X11_from : yX11_from.cls = RX11 ∧ yX11_from.cls ≠ "java/lang/invoke/MethodHandle" ∧ yX11_from.cls ≠ "java/lang/invoke/VarHandle" ∧ (parseMethodDescriptor yX11_from.desc).map (fun d => d.parameters.length) = some 1 := by decide +kernel
theorem hdV_X12_from : yX12_from.cls = RX12 ∧ yX12_from.cls ≠ "java/lang/invoke/MethodHandle" ∧ yX12_from.cls ≠ "java/lang/invoke/VarHandle" ∧ (parseMethodDescriptor yX12_from.desc).map (fun d => d.parameters.length) = some 1 := by decide +kernel
theorem hdV_X11_by : yX11_by.cls = RX11 ∧ yX11_by.cls ≠ "java/lang/invoke/MethodHandle" ∧ yX11_by.cls ≠ "java/lang/invoke/VarHandle" ∧ (parseMethodDescriptor yX11_by.desc).map (fun d => d.parameters.length) = some 1 := by decide +kernel
theorem hdV_X12_by : yX12_by.cls = RX12 ∧ yX12_by.cls ≠ "java/lang/invoke/MethodHandle" ∧ yX12_by.cls ≠ "java/lang/invoke/VarHandle" ∧ (parseMethodDescriptor yX12_by.desc).map (fun d => d.parameters.length) = some 1 := by decide +kernel
theorem hdV_X11_light : yX11_light.cls = RX11 ∧ yX11_light.cls ≠ "java/lang/invoke/MethodHandle" ∧ yX11_light.cls ≠ "java/lang/invoke/VarHandle" ∧ (parseMethodDescriptor yX11_light.desc).map (fun d => d.parameters.length) = some 1 := by decide +kernel
theorem hdV_X12_light : yX12_light.cls = RX12 ∧ yX12_light.cls ≠ "java/lang/invoke/MethodHandle" ∧ yX12_light.cls ≠ "java/lang/invoke/VarHandle" ∧ (parseMethodDescriptor yX12_light.desc).map (fun d => d.parameters.length) = some 1 := by decide +kernel
theorem hdV_X11_full : yX11_full.cls = RX11 ∧ yX11_full.cls ≠ "java/lang/invoke/MethodHandle" ∧ yX11_full.cls ≠ "java/lang/invoke/VarHandle" ∧ (parseMethodDescriptor yX11_full.desc).map (fun d => d.parameters.length) = some 0 := by decide +kernel
theorem hdV_X12_full : yX12_full.cls = RX12 ∧ yX12_full.cls ≠ "java/lang/invoke/MethodHandle" ∧ yX12_full.cls ≠ "java/lang/invoke/VarHandle" ∧ (parseMethodDescriptor yX12_full.desc).map (fun d => d.parameters.length) = some 0 := by decide +kernel
theorem hdV_X11_last : yX11_last.cls = RX11 ∧ yX11_last.cls ≠ "java/lang/invoke/MethodHandle" ∧ yX11_last.cls ≠ "java/lang/invoke/VarHandle" ∧ (parseMethodDescriptor yX11_last.desc).map (fun d => d.parameters.length) = some 0 := by decide +kernel
theorem hdV_X12_last : yX12_last.cls = RX12 ∧ yX12_last.cls ≠ "java/lang/invoke/MethodHandle" ∧ yX12_last.cls ≠ "java/lang/invoke/VarHandle" ∧ (parseMethodDescriptor yX12_last.desc).map (fun d => d.parameters.length) = some 0 := by decide +kernel
theorem hdV_X11_idle : yX11_idle.cls = RX11 ∧ yX11_idle.cls ≠ "java/lang/invoke/MethodHandle" ∧ yX11_idle.cls ≠ "java/lang/invoke/VarHandle" ∧ (parseMethodDescriptor yX11_idle.desc).map (fun d => d.parameters.length) = some 0 := by decide +kernel
theorem hdV_X12_idle : yX12_idle.cls = RX12 ∧ yX12_idle.cls ≠ "java/lang/invoke/MethodHandle" ∧ yX12_idle.cls ≠ "java/lang/invoke/VarHandle" ∧ (parseMethodDescriptor yX12_idle.desc).map (fun d => d.parameters.length) = some 0 := by decide +kernel
theorem hdV_X11_harm : yX11_harm.cls = RX11 ∧ yX11_harm.cls ≠ "java/lang/invoke/MethodHandle" ∧ yX11_harm.cls ≠ "java/lang/invoke/VarHandle" ∧ (parseMethodDescriptor yX11_harm.desc).map (fun d => d.parameters.length) = some 1 := by decide +kernel
theorem hdV_X12_harm : yX12_harm.cls = RX12 ∧ yX12_harm.cls ≠ "java/lang/invoke/MethodHandle" ∧ yX12_harm.cls ≠ "java/lang/invoke/VarHandle" ∧ (parseMethodDescriptor yX12_harm.desc).map (fun d => d.parameters.length) = some 1 := by decide +kernel
theorem hdV_X11_whose : yX11_whose.cls = RX11 ∧ yX11_whose.cls ≠ "java/lang/invoke/MethodHandle" ∧ yX11_whose.cls ≠ "java/lang/invoke/VarHandle" ∧ (parseMethodDescriptor yX11_whose.desc).map (fun d => d.parameters.length) = some 1 := by decide +kernel
theorem hdV_X12_whose : yX12_whose.cls = RX12 ∧ yX12_whose.cls ≠ "java/lang/invoke/MethodHandle" ∧ yX12_whose.cls ≠ "java/lang/invoke/VarHandle" ∧ (parseMethodDescriptor yX12_whose.desc).map (fun d => d.parameters.length) = some 1 := by decide +kernel
theorem hdV_X11_owns : yX11_owns.cls = RX11 ∧ yX11_owns.cls ≠ "java/lang/invoke/MethodHandle" ∧ yX11_owns.cls ≠ "java/lang/invoke/VarHandle" ∧ (parseMethodDescriptor yX11_owns.desc).map (fun d => d.parameters.length) = some 1 := by decide +kernel
theorem hdV_X12_owns : yX12_owns.cls = RX12 ∧ yX12_owns.cls ≠ "java/lang/invoke/MethodHandle" ∧ yX12_owns.cls ≠ "java/lang/invoke/VarHandle" ∧ (parseMethodDescriptor yX12_owns.desc).map (fun d => d.parameters.length) = some 1 := by decide +kernel
theorem hdV_X11_front : yX11_front.cls = RX11 ∧ yX11_front.cls ≠ "java/lang/invoke/MethodHandle" ∧ yX11_front.cls ≠ "java/lang/invoke/VarHandle" ∧ (parseMethodDescriptor yX11_front.desc).map (fun d => d.parameters.length) = some 0 := by decide +kernel
theorem hdV_X12_front : yX12_front.cls = RX12 ∧ yX12_front.cls ≠ "java/lang/invoke/MethodHandle" ∧ yX12_front.cls ≠ "java/lang/invoke/VarHandle" ∧ (parseMethodDescriptor yX12_front.desc).map (fun d => d.parameters.length) = some 0 := by decide +kernel
theorem hdV_X11_late : yX11_late.cls = RX11 ∧ yX11_late.cls ≠ "java/lang/invoke/MethodHandle" ∧ yX11_late.cls ≠ "java/lang/invoke/VarHandle" ∧ (parseMethodDescriptor yX11_late.desc).map (fun d => d.parameters.length) = some 1 := by decide +kernel
theorem hdV_X12_late : yX12_late.cls = RX12 ∧ yX12_late.cls ≠ "java/lang/invoke/MethodHandle" ∧ yX12_late.cls ≠ "java/lang/invoke/VarHandle" ∧ (parseMethodDescriptor yX12_late.desc).map (fun d => d.parameters.length) = some 1 := by decide +kernel
theorem hdV_X11_glad : yX11_glad.cls = RX11 ∧ yX11_glad.cls ≠ "java/lang/invoke/MethodHandle" ∧ yX11_glad.cls ≠ "java/lang/invoke/VarHandle" ∧ (parseMethodDescriptor yX11_glad.desc).map (fun d => d.parameters.length) = some 1 := by decide +kernel
theorem hdV_X12_glad : yX12_glad.cls = RX12 ∧ yX12_glad.cls ≠ "java/lang/invoke/MethodHandle" ∧ yX12_glad.cls ≠ "java/lang/invoke/VarHandle" ∧ (parseMethodDescriptor yX12_glad.desc).map (fun d => d.parameters.length) = some 1 := by decide +kernel
theorem hdV_X11_all : yX11_all.cls = RX11 ∧ yX11_all.cls ≠ "java/lang/invoke/MethodHandle" ∧ yX11_all.cls ≠ "java/lang/invoke/VarHandle" ∧ (parseMethodDescriptor yX11_all.desc).map (fun d => d.parameters.length) = some 0 := by decide +kernel
theorem hdV_X12_all : yX12_all.cls = RX12 ∧ yX12_all.cls ≠ "java/lang/invoke/MethodHandle" ∧ yX12_all.cls ≠ "java/lang/invoke/VarHandle" ∧ (parseMethodDescriptor yX12_all.desc).map (fun d => d.parameters.length) = some 0 := by decide +kernel
theorem hdV_X11_steps : yX11_steps.cls = RX11 ∧ yX11_steps.cls ≠ "java/lang/invoke/MethodHandle" ∧ yX11_steps.cls ≠ "java/lang/invoke/VarHandle" ∧ (parseMethodDescriptor yX11_steps.desc).map (fun d => d.parameters.length) = some 1 := by decide +kernel
theorem hdV_X12_steps : yX12_steps.cls = RX12 ∧ yX12_steps.cls ≠ "java/lang/invoke/MethodHandle" ∧ yX12_steps.cls ≠ "java/lang/invoke/VarHandle" ∧ (parseMethodDescriptor yX12_steps.desc).map (fun d => d.parameters.length) = some 1 := by decide +kernel
theorem hdV_X11_have : yX11_have.cls = RX11 ∧ yX11_have.cls ≠ "java/lang/invoke/MethodHandle" ∧ yX11_have.cls ≠ "java/lang/invoke/VarHandle" ∧ (parseMethodDescriptor yX11_have.desc).map (fun d => d.parameters.length) = some 1 := by decide +kernel
theorem hdV_X12_have : yX12_have.cls = RX12 ∧ yX12_have.cls ≠ "java/lang/invoke/MethodHandle" ∧ yX12_have.cls ≠ "java/lang/invoke/VarHandle" ∧ (parseMethodDescriptor yX12_have.desc).map (fun d => d.parameters.length) = some 1 := by decide +kernel
theorem hdV_X11_gladdest : yX11_gladdest.cls = RX11 ∧ yX11_gladdest.cls ≠ "java/lang/invoke/MethodHandle" ∧ yX11_gladdest.cls ≠ "java/lang/invoke/VarHandle" ∧ (parseMethodDescriptor yX11_gladdest.desc).map (fun d => d.parameters.length) = some 0 := by decide +kernel
theorem hdV_X12_gladdest : yX12_gladdest.cls = RX12 ∧ yX12_gladdest.cls ≠ "java/lang/invoke/MethodHandle" ∧ yX12_gladdest.cls ≠ "java/lang/invoke/VarHandle" ∧ (parseMethodDescriptor yX12_gladdest.desc).map (fun d => d.parameters.length) = some 0 := by decide +kernel
theorem hdV_X11_best : yX11_best.cls = RX11 ∧ yX11_best.cls ≠ "java/lang/invoke/MethodHandle" ∧ yX11_best.cls ≠ "java/lang/invoke/VarHandle" ∧ (parseMethodDescriptor yX11_best.desc).map (fun d => d.parameters.length) = some 1 := by decide +kernel
theorem hdV_X12_best : yX12_best.cls = RX12 ∧ yX12_best.cls ≠ "java/lang/invoke/MethodHandle" ∧ yX12_best.cls ≠ "java/lang/invoke/VarHandle" ∧ (parseMethodDescriptor yX12_best.desc).map (fun d => d.parameters.length) = some 1 := by decide +kernel
theorem hdV_X11_bars : yX11_bars.cls = RX11 ∧ yX11_bars.cls ≠ "java/lang/invoke/MethodHandle" ∧ yX11_bars.cls ≠ "java/lang/invoke/VarHandle" ∧ (parseMethodDescriptor yX11_bars.desc).map (fun d => d.parameters.length) = some 1 := by decide +kernel
theorem hdV_X12_bars : yX12_bars.cls = RX12 ∧ yX12_bars.cls ≠ "java/lang/invoke/MethodHandle" ∧ yX12_bars.cls ≠ "java/lang/invoke/VarHandle" ∧ (parseMethodDescriptor yX12_bars.desc).map (fun d => d.parameters.length) = some 1 := by decide +kernel
theorem hdV_X11_opens : yX11_opens.cls = RX11 ∧ yX11_opens.cls ≠ "java/lang/invoke/MethodHandle" ∧ yX11_opens.cls ≠ "java/lang/invoke/VarHandle" ∧ (parseMethodDescriptor yX11_opens.desc).map (fun d => d.parameters.length) = some 1 := by decide +kernel
theorem hdV_X12_opens : yX12_opens.cls = RX12 ∧ yX12_opens.cls ≠ "java/lang/invoke/MethodHandle" ∧ yX12_opens.cls ≠ "java/lang/invoke/VarHandle" ∧ (parseMethodDescriptor yX12_opens.desc).map (fun d => d.parameters.length) = some 1 := by decide +kernel
theorem hdV_X11_cut : yX11_cut.cls = RX11 ∧ yX11_cut.cls ≠ "java/lang/invoke/MethodHandle" ∧ yX11_cut.cls ≠ "java/lang/invoke/VarHandle" ∧ (parseMethodDescriptor yX11_cut.desc).map (fun d => d.parameters.length) = some 2 := by decide +kernel
theorem hdV_X12_cut_ : yX12_cut_.cls = RX12 ∧ yX12_cut_.cls ≠ "java/lang/invoke/MethodHandle" ∧ yX12_cut_.cls ≠ "java/lang/invoke/VarHandle" ∧ (parseMethodDescriptor yX12_cut_.desc).map (fun d => d.parameters.length) = some 2 := by decide +kernel
theorem hdV_X11_cuts : yX11_cuts.cls = RX11 ∧ yX11_cuts.cls ≠ "java/lang/invoke/MethodHandle" ∧ yX11_cuts.cls ≠ "java/lang/invoke/VarHandle" ∧ (parseMethodDescriptor yX11_cuts.desc).map (fun d => d.parameters.length) = some 2 := by decide +kernel
theorem hdV_X12_cuts : yX12_cuts.cls = RX12 ∧ yX12_cuts.cls ≠ "java/lang/invoke/MethodHandle" ∧ yX12_cuts.cls ≠ "java/lang/invoke/VarHandle" ∧ (parseMethodDescriptor yX12_cuts.desc).map (fun d => d.parameters.length) = some 2 := by decide +kernel
theorem hdV_X11_hold : yX11_hold.cls = RX11 ∧ yX11_hold.cls ≠ "java/lang/invoke/MethodHandle" ∧ yX11_hold.cls ≠ "java/lang/invoke/VarHandle" ∧ (parseMethodDescriptor yX11_hold.desc).map (fun d => d.parameters.length) = some 3 := by decide +kernel
theorem hdV_X12_hold : yX12_hold.cls = RX12 ∧ yX12_hold.cls ≠ "java/lang/invoke/MethodHandle" ∧ yX12_hold.cls ≠ "java/lang/invoke/VarHandle" ∧ (parseMethodDescriptor yX12_hold.desc).map (fun d => d.parameters.length) = some 3 := by decide +kernel
theorem hdV_X11_asks : yX11_asks.cls = RX11 ∧ yX11_asks.cls ≠ "java/lang/invoke/MethodHandle" ∧ yX11_asks.cls ≠ "java/lang/invoke/VarHandle" ∧ (parseMethodDescriptor yX11_asks.desc).map (fun d => d.parameters.length) = some 1 := by decide +kernel
theorem hdV_X12_asks_ : yX12_asks_.cls = RX12 ∧ yX12_asks_.cls ≠ "java/lang/invoke/MethodHandle" ∧ yX12_asks_.cls ≠ "java/lang/invoke/VarHandle" ∧ (parseMethodDescriptor yX12_asks_.desc).map (fun d => d.parameters.length) = some 1 := by decide +kernel
theorem hdV_X11_brings : yX11_brings.cls = RX11 ∧ yX11_brings.cls ≠ "java/lang/invoke/MethodHandle" ∧ yX11_brings.cls ≠ "java/lang/invoke/VarHandle" ∧ (parseMethodDescriptor yX11_brings.desc).map (fun d => d.parameters.length) = some 1 := by decide +kernel
theorem hdV_X12_brings : yX12_brings.cls = RX12 ∧ yX12_brings.cls ≠ "java/lang/invoke/MethodHandle" ∧ yX12_brings.cls ≠ "java/lang/invoke/VarHandle" ∧ (parseMethodDescriptor yX12_brings.desc).map (fun d => d.parameters.length) = some 1 := by decide +kernel
theorem hdV_X11_fits : yX11_fits.cls = RX11 ∧ yX11_fits.cls ≠ "java/lang/invoke/MethodHandle" ∧ yX11_fits.cls ≠ "java/lang/invoke/VarHandle" ∧ (parseMethodDescriptor yX11_fits.desc).map (fun d => d.parameters.length) = some 1 := by decide +kernel
theorem hdV_X12_fits : yX12_fits.cls = RX12 ∧ yX12_fits.cls ≠ "java/lang/invoke/MethodHandle" ∧ yX12_fits.cls ≠ "java/lang/invoke/VarHandle" ∧ (parseMethodDescriptor yX12_fits.desc).map (fun d => d.parameters.length) = some 1 := by decide +kernel
theorem hdV_X11_held : yX11_held.cls = RX11 ∧ yX11_held.cls ≠ "java/lang/invoke/MethodHandle" ∧ yX11_held.cls ≠ "java/lang/invoke/VarHandle" ∧ (parseMethodDescriptor yX11_held.desc).map (fun d => d.parameters.length) = some 1 := by decide +kernel
theorem hdV_X12_held : yX12_held.cls = RX12 ∧ yX12_held.cls ≠ "java/lang/invoke/MethodHandle" ∧ yX12_held.cls ≠ "java/lang/invoke/VarHandle" ∧ (parseMethodDescriptor yX12_held.desc).map (fun d => d.parameters.length) = some 1 := by decide +kernel
theorem hdV_X11_fit : yX11_fit.cls = RX11 ∧ yX11_fit.cls ≠ "java/lang/invoke/MethodHandle" ∧ yX11_fit.cls ≠ "java/lang/invoke/VarHandle" ∧ (parseMethodDescriptor yX11_fit.desc).map (fun d => d.parameters.length) = some 2 := by decide +kernel
theorem hdV_X12_fit : yX12_fit.cls = RX12 ∧ yX12_fit.cls ≠ "java/lang/invoke/MethodHandle" ∧ yX12_fit.cls ≠ "java/lang/invoke/VarHandle" ∧ (parseMethodDescriptor yX12_fit.desc).map (fun d => d.parameters.length) = some 2 := by decide +kernel
theorem hdV_X12_ask : yX12_ask.cls = RX12 ∧ yX12_ask.cls ≠ "java/lang/invoke/MethodHandle" ∧ yX12_ask.cls ≠ "java/lang/invoke/VarHandle" ∧ (parseMethodDescriptor yX12_ask.desc).map (fun d => d.parameters.length) = some 1 := by decide +kernel
theorem hdV_X11_leaves : yX11_leaves.cls = RX11 ∧ yX11_leaves.cls ≠ "java/lang/invoke/MethodHandle" ∧ yX11_leaves.cls ≠ "java/lang/invoke/VarHandle" ∧ (parseMethodDescriptor yX11_leaves.desc).map (fun d => d.parameters.length) = some 1 := by decide +kernel
theorem hdV_X12_leaves : yX12_leaves.cls = RX12 ∧ yX12_leaves.cls ≠ "java/lang/invoke/MethodHandle" ∧ yX12_leaves.cls ≠ "java/lang/invoke/VarHandle" ∧ (parseMethodDescriptor yX12_leaves.desc).map (fun d => d.parameters.length) = some 1 := by decide +kernel
theorem hdV_X11_place : yX11_place.cls = RX11 ∧ yX11_place.cls ≠ "java/lang/invoke/MethodHandle" ∧ yX11_place.cls ≠ "java/lang/invoke/VarHandle" ∧ (parseMethodDescriptor yX11_place.desc).map (fun d => d.parameters.length) = some 1 := by decide +kernel
theorem hdV_X12_place : yX12_place.cls = RX12 ∧ yX12_place.cls ≠ "java/lang/invoke/MethodHandle" ∧ yX12_place.cls ≠ "java/lang/invoke/VarHandle" ∧ (parseMethodDescriptor yX12_place.desc).map (fun d => d.parameters.length) = some 1 := by decide +kernel
theorem hdV_X11_places : yX11_places.cls = RX11 ∧ yX11_places.cls ≠ "java/lang/invoke/MethodHandle" ∧ yX11_places.cls ≠ "java/lang/invoke/VarHandle" ∧ (parseMethodDescriptor yX11_places.desc).map (fun d => d.parameters.length) = some 1 := by decide +kernel
theorem hdV_X12_places : yX12_places.cls = RX12 ∧ yX12_places.cls ≠ "java/lang/invoke/MethodHandle" ∧ yX12_places.cls ≠ "java/lang/invoke/VarHandle" ∧ (parseMethodDescriptor yX12_places.desc).map (fun d => d.parameters.length) = some 1 := by decide +kernel
theorem hdV_X11_soon : yX11_soon.cls = RX11 ∧ yX11_soon.cls ≠ "java/lang/invoke/MethodHandle" ∧ yX11_soon.cls ≠ "java/lang/invoke/VarHandle" ∧ (parseMethodDescriptor yX11_soon.desc).map (fun d => d.parameters.length) = some 1 := by decide +kernel
theorem hdV_X12_soon : yX12_soon.cls = RX12 ∧ yX12_soon.cls ≠ "java/lang/invoke/MethodHandle" ∧ yX12_soon.cls ≠ "java/lang/invoke/VarHandle" ∧ (parseMethodDescriptor yX12_soon.desc).map (fun d => d.parameters.length) = some 1 := by decide +kernel
theorem hdV_X11_carts : yX11_carts.cls = RX11 ∧ yX11_carts.cls ≠ "java/lang/invoke/MethodHandle" ∧ yX11_carts.cls ≠ "java/lang/invoke/VarHandle" ∧ (parseMethodDescriptor yX11_carts.desc).map (fun d => d.parameters.length) = some 1 := by decide +kernel
theorem hdV_X12_carts : yX12_carts.cls = RX12 ∧ yX12_carts.cls ≠ "java/lang/invoke/MethodHandle" ∧ yX12_carts.cls ≠ "java/lang/invoke/VarHandle" ∧ (parseMethodDescriptor yX12_carts.desc).map (fun d => d.parameters.length) = some 1 := by decide +kernel
theorem hdV_X11_cart : yX11_cart.cls = RX11 ∧ yX11_cart.cls ≠ "java/lang/invoke/MethodHandle" ∧ yX11_cart.cls ≠ "java/lang/invoke/VarHandle" ∧ (parseMethodDescriptor yX11_cart.desc).map (fun d => d.parameters.length) = some 2 := by decide +kernel
theorem hdV_X12_cart : yX12_cart.cls = RX12 ∧ yX12_cart.cls ≠ "java/lang/invoke/MethodHandle" ∧ yX12_cart.cls ≠ "java/lang/invoke/VarHandle" ∧ (parseMethodDescriptor yX12_cart.desc).map (fun d => d.parameters.length) = some 2 := by decide +kernel
theorem hdV_X11_wins : yX11_wins.cls = RX11 ∧ yX11_wins.cls ≠ "java/lang/invoke/MethodHandle" ∧ yX11_wins.cls ≠ "java/lang/invoke/VarHandle" ∧ (parseMethodDescriptor yX11_wins.desc).map (fun d => d.parameters.length) = some 0 := by decide +kernel
theorem hdV_X12_wins : yX12_wins.cls = RX12 ∧ yX12_wins.cls ≠ "java/lang/invoke/MethodHandle" ∧ yX12_wins.cls ≠ "java/lang/invoke/VarHandle" ∧ (parseMethodDescriptor yX12_wins.desc).map (fun d => d.parameters.length) = some 0 := by decide +kernel
theorem hdV_X11_price : yX11_price.cls = RX11 ∧ yX11_price.cls ≠ "java/lang/invoke/MethodHandle" ∧ yX11_price.cls ≠ "java/lang/invoke/VarHandle" ∧ (parseMethodDescriptor yX11_price.desc).map (fun d => d.parameters.length) = some 0 := by decide +kernel
theorem hdV_X12_price : yX12_price.cls = RX12 ∧ yX12_price.cls ≠ "java/lang/invoke/MethodHandle" ∧ yX12_price.cls ≠ "java/lang/invoke/VarHandle" ∧ (parseMethodDescriptor yX12_price.desc).map (fun d => d.parameters.length) = some 0 := by decide +kernel
theorem hdV_X11_rests : yX11_rests.cls = RX11 ∧ yX11_rests.cls ≠ "java/lang/invoke/MethodHandle" ∧ yX11_rests.cls ≠ "java/lang/invoke/VarHandle" ∧ (parseMethodDescriptor yX11_rests.desc).map (fun d => d.parameters.length) = some 0 := by decide +kernel
theorem hdV_X12_rests : yX12_rests.cls = RX12 ∧ yX12_rests.cls ≠ "java/lang/invoke/MethodHandle" ∧ yX12_rests.cls ≠ "java/lang/invoke/VarHandle" ∧ (parseMethodDescriptor yX12_rests.desc).map (fun d => d.parameters.length) = some 0 := by decide +kernel
theorem hdV_X11_clerk : yX11_clerk.cls = RX11 ∧ yX11_clerk.cls ≠ "java/lang/invoke/MethodHandle" ∧ yX11_clerk.cls ≠ "java/lang/invoke/VarHandle" ∧ (parseMethodDescriptor yX11_clerk.desc).map (fun d => d.parameters.length) = some 0 := by decide +kernel
theorem hdV_X12_clerk : yX12_clerk.cls = RX12 ∧ yX12_clerk.cls ≠ "java/lang/invoke/MethodHandle" ∧ yX12_clerk.cls ≠ "java/lang/invoke/VarHandle" ∧ (parseMethodDescriptor yX12_clerk.desc).map (fun d => d.parameters.length) = some 0 := by decide +kernel
theorem hdV_X11_chance : yX11_chance.cls = RX11 ∧ yX11_chance.cls ≠ "java/lang/invoke/MethodHandle" ∧ yX11_chance.cls ≠ "java/lang/invoke/VarHandle" ∧ (parseMethodDescriptor yX11_chance.desc).map (fun d => d.parameters.length) = some 3 := by decide +kernel
theorem hdV_X12_chance : yX12_chance.cls = RX12 ∧ yX12_chance.cls ≠ "java/lang/invoke/MethodHandle" ∧ yX12_chance.cls ≠ "java/lang/invoke/VarHandle" ∧ (parseMethodDescriptor yX12_chance.desc).map (fun d => d.parameters.length) = some 3 := by decide +kernel
theorem hdV_X11_sure : yX11_sure.cls = RX11 ∧ yX11_sure.cls ≠ "java/lang/invoke/MethodHandle" ∧ yX11_sure.cls ≠ "java/lang/invoke/VarHandle" ∧ (parseMethodDescriptor yX11_sure.desc).map (fun d => d.parameters.length) = some 2 := by decide +kernel
theorem hdV_X12_sure : yX12_sure.cls = RX12 ∧ yX12_sure.cls ≠ "java/lang/invoke/MethodHandle" ∧ yX12_sure.cls ≠ "java/lang/invoke/VarHandle" ∧ (parseMethodDescriptor yX12_sure.desc).map (fun d => d.parameters.length) = some 2 := by decide +kernel
theorem hdV_X11_bar : yX11_bar.cls = RX11 ∧ yX11_bar.cls ≠ "java/lang/invoke/MethodHandle" ∧ yX11_bar.cls ≠ "java/lang/invoke/VarHandle" ∧ (parseMethodDescriptor yX11_bar.desc).map (fun d => d.parameters.length) = some 2 := by decide +kernel
theorem hdV_X12_bar : yX12_bar.cls = RX12 ∧ yX12_bar.cls ≠ "java/lang/invoke/MethodHandle" ∧ yX12_bar.cls ≠ "java/lang/invoke/VarHandle" ∧ (parseMethodDescriptor yX12_bar.desc).map (fun d => d.parameters.length) = some 2 := by decide +kernel
theorem hdV_X11_holds : yX11_holds.cls = RX11 ∧ yX11_holds.cls ≠ "java/lang/invoke/MethodHandle" ∧ yX11_holds.cls ≠ "java/lang/invoke/VarHandle" ∧ (parseMethodDescriptor yX11_holds.desc).map (fun d => d.parameters.length) = some 2 := by decide +kernel
theorem hdV_X12_holds : yX12_holds.cls = RX12 ∧ yX12_holds.cls ≠ "java/lang/invoke/MethodHandle" ∧ yX12_holds.cls ≠ "java/lang/invoke/VarHandle" ∧ (parseMethodDescriptor yX12_holds.desc).map (fun d => d.parameters.length) = some 2 := by decide +kernel
theorem hdV_X11_undo : yX11_undo.cls = RX11 ∧ yX11_undo.cls ≠ "java/lang/invoke/MethodHandle" ∧ yX11_undo.cls ≠ "java/lang/invoke/VarHandle" ∧ (parseMethodDescriptor yX11_undo.desc).map (fun d => d.parameters.length) = some 0 := by decide +kernel
theorem hdV_X12_undo : yX12_undo.cls = RX12 ∧ yX12_undo.cls ≠ "java/lang/invoke/MethodHandle" ∧ yX12_undo.cls ≠ "java/lang/invoke/VarHandle" ∧ (parseMethodDescriptor yX12_undo.desc).map (fun d => d.parameters.length) = some 0 := by decide +kernel
theorem hdV_X11_anew : yX11_anew.cls = RX11 ∧ yX11_anew.cls ≠ "java/lang/invoke/MethodHandle" ∧ yX11_anew.cls ≠ "java/lang/invoke/VarHandle" ∧ (parseMethodDescriptor yX11_anew.desc).map (fun d => d.parameters.length) = some 0 := by decide +kernel
theorem hdV_X12_anew : yX12_anew.cls = RX12 ∧ yX12_anew.cls ≠ "java/lang/invoke/MethodHandle" ∧ yX12_anew.cls ≠ "java/lang/invoke/VarHandle" ∧ (parseMethodDescriptor yX12_anew.desc).map (fun d => d.parameters.length) = some 0 := by decide +kernel
theorem hdV_X11_drawn : yX11_drawn.cls = RX11 ∧ yX11_drawn.cls ≠ "java/lang/invoke/MethodHandle" ∧ yX11_drawn.cls ≠ "java/lang/invoke/VarHandle" ∧ (parseMethodDescriptor yX11_drawn.desc).map (fun d => d.parameters.length) = some 2 := by decide +kernel
theorem hdV_X12_drawn : yX12_drawn.cls = RX12 ∧ yX12_drawn.cls ≠ "java/lang/invoke/MethodHandle" ∧ yX12_drawn.cls ≠ "java/lang/invoke/VarHandle" ∧ (parseMethodDescriptor yX12_drawn.desc).map (fun d => d.parameters.length) = some 2 := by decide +kernel
theorem hdV_X11_luck : yX11_luck.cls = RX11 ∧ yX11_luck.cls ≠ "java/lang/invoke/MethodHandle" ∧ yX11_luck.cls ≠ "java/lang/invoke/VarHandle" ∧ (parseMethodDescriptor yX11_luck.desc).map (fun d => d.parameters.length) = some 4 := by decide +kernel
theorem hdV_X12_luck : yX12_luck.cls = RX12 ∧ yX12_luck.cls ≠ "java/lang/invoke/MethodHandle" ∧ yX12_luck.cls ≠ "java/lang/invoke/VarHandle" ∧ (parseMethodDescriptor yX12_luck.desc).map (fun d => d.parameters.length) = some 4 := by decide +kernel
theorem hdV_X11_tell : yX11_tell.cls = RX11 ∧ yX11_tell.cls ≠ "java/lang/invoke/MethodHandle" ∧ yX11_tell.cls ≠ "java/lang/invoke/VarHandle" ∧ (parseMethodDescriptor yX11_tell.desc).map (fun d => d.parameters.length) = some 3 := by decide +kernel
theorem hdV_X12_tell : yX12_tell.cls = RX12 ∧ yX12_tell.cls ≠ "java/lang/invoke/MethodHandle" ∧ yX12_tell.cls ≠ "java/lang/invoke/VarHandle" ∧ (parseMethodDescriptor yX12_tell.desc).map (fun d => d.parameters.length) = some 3 := by decide +kernel
theorem hdV_X11_count : yX11_count.cls = RX11 ∧ yX11_count.cls ≠ "java/lang/invoke/MethodHandle" ∧ yX11_count.cls ≠ "java/lang/invoke/VarHandle" ∧ (parseMethodDescriptor yX11_count.desc).map (fun d => d.parameters.length) = some 1 := by decide +kernel
theorem hdV_X12_count : yX12_count.cls = RX12 ∧ yX12_count.cls ≠ "java/lang/invoke/MethodHandle" ∧ yX12_count.cls ≠ "java/lang/invoke/VarHandle" ∧ (parseMethodDescriptor yX12_count.desc).map (fun d => d.parameters.length) = some 1 := by decide +kernel
theorem hdV_X11_image : yX11_image.cls = RX11 ∧ yX11_image.cls ≠ "java/lang/invoke/MethodHandle" ∧ yX11_image.cls ≠ "java/lang/invoke/VarHandle" ∧ (parseMethodDescriptor yX11_image.desc).map (fun d => d.parameters.length) = some 1 := by decide +kernel
theorem hdV_X12_image : yX12_image.cls = RX12 ∧ yX12_image.cls ≠ "java/lang/invoke/MethodHandle" ∧ yX12_image.cls ≠ "java/lang/invoke/VarHandle" ∧ (parseMethodDescriptor yX12_image.desc).map (fun d => d.parameters.length) = some 1 := by decide +kernel
theorem hdV_X11_back : yX11_back.cls = RX11 ∧ yX11_back.cls ≠ "java/lang/invoke/MethodHandle" ∧ yX11_back.cls ≠ "java/lang/invoke/VarHandle" ∧ (parseMethodDescriptor yX11_back.desc).map (fun d => d.parameters.length) = some 1 := by decide +kernel
theorem hdV_X12_back : yX12_back.cls = RX12 ∧ yX12_back.cls ≠ "java/lang/invoke/MethodHandle" ∧ yX12_back.cls ≠ "java/lang/invoke/VarHandle" ∧ (parseMethodDescriptor yX12_back.desc).map (fun d => d.parameters.length) = some 1 := by decide +kernel
theorem hdV_X11_row : yX11_row.cls = RX11 ∧ yX11_row.cls ≠ "java/lang/invoke/MethodHandle" ∧ yX11_row.cls ≠ "java/lang/invoke/VarHandle" ∧ (parseMethodDescriptor yX11_row.desc).map (fun d => d.parameters.length) = some 3 := by decide +kernel
theorem hdV_X12_row : yX12_row.cls = RX12 ∧ yX12_row.cls ≠ "java/lang/invoke/MethodHandle" ∧ yX12_row.cls ≠ "java/lang/invoke/VarHandle" ∧ (parseMethodDescriptor yX12_row.desc).map (fun d => d.parameters.length) = some 3 := by decide +kernel
theorem hdV_X11_write : yX11_write.cls = RX11 ∧ yX11_write.cls ≠ "java/lang/invoke/MethodHandle" ∧ yX11_write.cls ≠ "java/lang/invoke/VarHandle" ∧ (parseMethodDescriptor yX11_write.desc).map (fun d => d.parameters.length) = some 3 := by decide +kernel
theorem hdV_X12_write : yX12_write.cls = RX12 ∧ yX12_write.cls ≠ "java/lang/invoke/MethodHandle" ∧ yX12_write.cls ≠ "java/lang/invoke/VarHandle" ∧ (parseMethodDescriptor yX12_write.desc).map (fun d => d.parameters.length) = some 3 := by decide +kernel
theorem hdV_X11_paste : yX11_paste.cls = RX11 ∧ yX11_paste.cls ≠ "java/lang/invoke/MethodHandle" ∧ yX11_paste.cls ≠ "java/lang/invoke/VarHandle" ∧ (parseMethodDescriptor yX11_paste.desc).map (fun d => d.parameters.length) = some 5 := by decide +kernel
theorem hdV_X12_paste : yX12_paste.cls = RX12 ∧ yX12_paste.cls ≠ "java/lang/invoke/MethodHandle" ∧ yX12_paste.cls ≠ "java/lang/invoke/VarHandle" ∧ (parseMethodDescriptor yX12_paste.desc).map (fun d => d.parameters.length) = some 5 := by decide +kernel
theorem hdS_X11_init : yX11_init.cls ≠ "java/lang/invoke/MethodHandle" ∧ yX11_init.cls ≠ "java/lang/invoke/VarHandle" ∧ (parseMethodDescriptor yX11_init.desc).map (fun d => d.parameters.length) = some 0 := by decide +kernel
theorem hdS_X12_init : yX12_init.cls ≠ "java/lang/invoke/MethodHandle" ∧ yX12_init.cls ≠ "java/lang/invoke/VarHandle" ∧ (parseMethodDescriptor yX12_init.desc).map (fun d => d.parameters.length) = some 0 := by decide +kernel
