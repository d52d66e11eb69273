theorem tw1_1 : Cond.initialized RX11 ∈ TB := tb_in1 (i := 1) (by decide +kernel) rfl
theorem tw1_10 : Cond.initialized RX7 ∈ TB := tb_in1 (i := 10) (by decide +kernel) rfl
theorem tw1_100 : Cond.fieldLink RX4 44 "MovingExits$Hall" "places" "I" ∈ TB := tb_in1 (i := 100) (by decide +kernel) rfl
theorem tw1_101 : Cond.fieldLink RX11 275 "MovingExits$Hall" "places" "I" ∈ TB := tb_in1 (i := 101) (by decide +kernel) rfl
theorem tw1_102 : Cond.fieldLink RX0 29 "MovingExits$Hall" "exits" "I" ∈ TB := tb_in1 (i := 102) (by decide +kernel) rfl
theorem tw1_103 : Cond.fieldLink RX5 59 "MovingExits$Hall" "exits" "I" ∈ TB := tb_in1 (i := 103) (by decide +kernel) rfl
theorem tw1_104 : Cond.fieldLink RX3 29 "MovingExits$Hall" "exits" "I" ∈ TB := tb_in1 (i := 104) (by decide +kernel) rfl
theorem tw1_105 : Cond.fieldLink RX6 110 "MovingExits$Hall" "exits" "I" ∈ TB := tb_in1 (i := 105) (by decide +kernel) rfl
theorem tw1_106 : Cond.fieldLink RX7 100 "MovingExits$Hall" "exits" "I" ∈ TB := tb_in1 (i := 106) (by decide +kernel) rfl
theorem tw1_107 : Cond.fieldLink RX2 71 "MovingExits$Hall" "exits" "I" ∈ TB := tb_in1 (i := 107) (by decide +kernel) rfl
theorem tw1_108 : Cond.fieldLink RX11 293 "MovingExits$Hall" "exits" "I" ∈ TB := tb_in1 (i := 108) (by decide +kernel) rfl
theorem tw1_109 : Cond.fieldLink RX5 62 "MovingExits$Hall" "sitters" "J" ∈ TB := tb_in1 (i := 109) (by decide +kernel) rfl
theorem tw1_11 : Cond.initialized RX9 ∈ TB := tb_in1 (i := 11) (by decide +kernel) rfl
theorem tw1_110 : Cond.fieldLink RX7 62 "MovingExits$Hall" "sitters" "J" ∈ TB := tb_in1 (i := 110) (by decide +kernel) rfl
theorem tw1_111 : Cond.fieldLink RX11 340 "MovingExits$Hall" "sitters" "J" ∈ TB := tb_in1 (i := 111) (by decide +kernel) rfl
theorem tw1_112 : Cond.fieldLink RX5 9 "MovingExits$Hall" "rowOf" "[I" ∈ TB := tb_in1 (i := 112) (by decide +kernel) rfl
theorem tw1_113 : Cond.fieldLink RX6 90 "MovingExits$Hall" "rowOf" "[I" ∈ TB := tb_in1 (i := 113) (by decide +kernel) rfl
theorem tw1_114 : Cond.fieldLink RX11 128 "MovingExits$Hall" "rowOf" "[I" ∈ TB := tb_in1 (i := 114) (by decide +kernel) rfl
theorem tw1_115 : Cond.fieldLink RX0 114 "MovingExits$Hall" "rowOf" "[I" ∈ TB := tb_in1 (i := 115) (by decide +kernel) rfl
theorem tw1_116 : Cond.fieldLink RX5 15 "MovingExits$Hall" "seatOf" "[I" ∈ TB := tb_in1 (i := 116) (by decide +kernel) rfl
theorem tw1_117 : Cond.fieldLink RX6 94 "MovingExits$Hall" "seatOf" "[I" ∈ TB := tb_in1 (i := 117) (by decide +kernel) rfl
theorem tw1_118 : Cond.fieldLink RX11 132 "MovingExits$Hall" "seatOf" "[I" ∈ TB := tb_in1 (i := 118) (by decide +kernel) rfl
theorem tw1_119 : Cond.fieldLink RX0 117 "MovingExits$Hall" "seatOf" "[I" ∈ TB := tb_in1 (i := 119) (by decide +kernel) rfl
theorem tw1_12 : Cond.initialized RX3 ∈ TB := tb_in1 (i := 12) (by decide +kernel) rfl
theorem tw1_120 : Cond.fieldLink RX5 18 "MovingExits$Hall" "leadsTo" "[I" ∈ TB := tb_in1 (i := 120) (by decide +kernel) rfl
theorem tw1_121 : Cond.fieldLink RX6 103 "MovingExits$Hall" "leadsTo" "[I" ∈ TB := tb_in1 (i := 121) (by decide +kernel) rfl
theorem tw1_122 : Cond.fieldLink RX0 64 "MovingExits$Hall" "leadsTo" "[I" ∈ TB := tb_in1 (i := 122) (by decide +kernel) rfl
theorem tw1_123 : Cond.fieldLink RX11 135 "MovingExits$Hall" "leadsTo" "[I" ∈ TB := tb_in1 (i := 123) (by decide +kernel) rfl
theorem tw1_124 : Cond.fieldLink RX5 21 "MovingExits$Hall" "then" "[I" ∈ TB := tb_in1 (i := 124) (by decide +kernel) rfl
theorem tw1_125 : Cond.fieldLink RX6 107 "MovingExits$Hall" "then" "[I" ∈ TB := tb_in1 (i := 125) (by decide +kernel) rfl
theorem tw1_126 : Cond.fieldLink RX11 138 "MovingExits$Hall" "then" "[I" ∈ TB := tb_in1 (i := 126) (by decide +kernel) rfl
theorem tw1_127 : Cond.fieldLink RX5 24 "MovingExits$Hall" "firstPlace" "[I" ∈ TB := tb_in1 (i := 127) (by decide +kernel) rfl
theorem tw1_128 : Cond.fieldLink RX0 35 "MovingExits$Hall" "firstPlace" "[I" ∈ TB := tb_in1 (i := 128) (by decide +kernel) rfl
theorem tw1_129 : Cond.fieldLink RX6 116 "MovingExits$Hall" "firstPlace" "[I" ∈ TB := tb_in1 (i := 129) (by decide +kernel) rfl
theorem tw1_13 : Cond.initialized RX12 ∈ TB := tb_in1 (i := 13) (by decide +kernel) rfl
theorem tw1_130 : Cond.fieldLink RX11 144 "MovingExits$Hall" "firstPlace" "[I" ∈ TB := tb_in1 (i := 130) (by decide +kernel) rfl
theorem tw1_131 : Cond.fieldLink RX5 27 "MovingExits$Hall" "wide" "[I" ∈ TB := tb_in1 (i := 131) (by decide +kernel) rfl
theorem tw1_132 : Cond.fieldLink RX6 120 "MovingExits$Hall" "wide" "[I" ∈ TB := tb_in1 (i := 132) (by decide +kernel) rfl
theorem tw1_133 : Cond.fieldLink RX7 114 "MovingExits$Hall" "wide" "[I" ∈ TB := tb_in1 (i := 133) (by decide +kernel) rfl
theorem tw1_134 : Cond.fieldLink RX11 147 "MovingExits$Hall" "wide" "[I" ∈ TB := tb_in1 (i := 134) (by decide +kernel) rfl
theorem tw1_135 : Cond.fieldLink RX5 30 "MovingExits$Hall" "kingFrom" "[I" ∈ TB := tb_in1 (i := 135) (by decide +kernel) rfl
theorem tw1_136 : Cond.fieldLink RX6 123 "MovingExits$Hall" "kingFrom" "[I" ∈ TB := tb_in1 (i := 136) (by decide +kernel) rfl
theorem tw1_137 : Cond.fieldLink RX11 150 "MovingExits$Hall" "kingFrom" "[I" ∈ TB := tb_in1 (i := 137) (by decide +kernel) rfl
theorem tw1_138 : Cond.fieldLink RX5 33 "MovingExits$Hall" "kingTo" "[I" ∈ TB := tb_in1 (i := 138) (by decide +kernel) rfl
theorem tw1_139 : Cond.fieldLink RX6 126 "MovingExits$Hall" "kingTo" "[I" ∈ TB := tb_in1 (i := 139) (by decide +kernel) rfl
theorem tw1_14 : Cond.initialized RJ9 ∈ TB := tb_in1 (i := 14) (by decide +kernel) rfl
theorem tw1_140 : Cond.fieldLink RX11 153 "MovingExits$Hall" "kingTo" "[I" ∈ TB := tb_in1 (i := 140) (by decide +kernel) rfl
theorem tw1_141 : Cond.fieldLink RX5 39 "MovingExits$Hall" "changes" "LMovingExits$Changes;" ∈ TB := tb_in1 (i := 141) (by decide +kernel) rfl
theorem tw1_142 : Cond.fieldLink RX11 296 "MovingExits$Hall" "changes" "LMovingExits$Changes;" ∈ TB := tb_in1 (i := 142) (by decide +kernel) rfl
theorem tw1_15 : Cond.initialized RJ13 ∈ TB := tb_in1 (i := 15) (by decide +kernel) rfl
theorem tw1_16 : Cond.initialized RJ6 ∈ TB := tb_in1 (i := 16) (by decide +kernel) rfl
theorem tw1_17 : Cond.initialized RJ10 ∈ TB := tb_in1 (i := 17) (by decide +kernel) rfl
theorem tw1_176 : Cond.instantiable RX8 3 ∈ TB := tb_in1 (i := 176) (by decide +kernel) rfl
theorem tw1_178 : Cond.instanceMethod yX8_init ∈ TB := tb_in1 (i := 178) (by decide +kernel) rfl
theorem tw1_179 : Cond.code yX8_init cX8_init 1 none ∈ TB := tb_in1 (i := 179) rfl rfl
theorem tw1_180 : Cond.methodLink RX8 3 objectInit ∈ TB := tb_in1 (i := 180) (by decide +kernel) rfl
theorem tw1_181 : Cond.fieldLink RX8 9 "MovingExits$Slot" "numbers" "[J" ∈ TB := tb_in1 (i := 181) (by decide +kernel) rfl
theorem tw1_182 : Cond.fieldLink RX11 372 "MovingExits$Slot" "numbers" "[J" ∈ TB := tb_in1 (i := 182) (by decide +kernel) rfl
theorem tw1_183 : Cond.fieldLink RX8 19 "MovingExits$Slot" "width" "I" ∈ TB := tb_in1 (i := 183) (by decide +kernel) rfl
theorem tw1_184 : Cond.fieldLink RX11 366 "MovingExits$Slot" "width" "I" ∈ TB := tb_in1 (i := 184) (by decide +kernel) rfl
theorem tw1_185 : Cond.fieldLink RX8 15 "MovingExits$Slot" "length" "I" ∈ TB := tb_in1 (i := 185) (by decide +kernel) rfl
theorem tw1_186 : Cond.fieldLink RX2 19 "MovingExits$Slot" "length" "I" ∈ TB := tb_in1 (i := 186) (by decide +kernel) rfl
theorem tw1_187 : Cond.fieldLink RX11 361 "MovingExits$Slot" "length" "I" ∈ TB := tb_in1 (i := 187) (by decide +kernel) rfl
theorem tw1_19 : Cond.instantiable RX11 13 ∈ TB := tb_in1 (i := 19) (by decide +kernel) rfl
theorem tw1_195 : Cond.arrayClass .long ∈ TB := tb_in1 (i := 195) (by decide +kernel) rfl
theorem tw1_196 : Cond.classLink RX11 41 RX6 ∈ TB := tb_in1 (i := 196) (by decide +kernel) rfl
theorem tw1_197 : Cond.instantiable RX6 10 ∈ TB := tb_in1 (i := 197) (by decide +kernel) rfl
theorem tw1_198 : Cond.methodLink RX11 43 yX6_init ∈ TB := tb_in1 (i := 198) (by decide +kernel) rfl
theorem tw1_199 : Cond.instanceMethod yX6_init ∈ TB := tb_in1 (i := 199) (by decide +kernel) rfl
theorem tw1_2 : Cond.initialized RX10 ∈ TB := tb_in1 (i := 2) (by decide +kernel) rfl
theorem tw1_200 : Cond.code yX6_init cX6_init 3 none ∈ TB := tb_in1 (i := 200) rfl rfl
theorem tw1_201 : Cond.methodLink RX6 3 objectInit ∈ TB := tb_in1 (i := 201) (by decide +kernel) rfl
theorem tw1_202 : Cond.fieldLink RX6 28 "MovingExits$Reader" "fault" "I" ∈ TB := tb_in1 (i := 202) (by decide +kernel) rfl
theorem tw1_203 : Cond.fieldLink RX11 118 "MovingExits$Reader" "fault" "I" ∈ TB := tb_in1 (i := 203) (by decide +kernel) rfl
theorem tw1_204 : Cond.fieldLink RX6 9 "MovingExits$Reader" "faultPlace" "I" ∈ TB := tb_in1 (i := 204) (by decide +kernel) rfl
theorem tw1_205 : Cond.fieldLink RX11 121 "MovingExits$Reader" "faultPlace" "I" ∈ TB := tb_in1 (i := 205) (by decide +kernel) rfl
theorem tw1_206 : Cond.fieldLink RX6 15 "MovingExits$Reader" "tape" "LMovingExits$Tape;" ∈ TB := tb_in1 (i := 206) (by decide +kernel) rfl
theorem tw1_207 : Cond.fieldLink RX6 19 "MovingExits$Reader" "told" "LMovingExits$Hall;" ∈ TB := tb_in1 (i := 207) (by decide +kernel) rfl
theorem tw1_208 : Cond.fieldLink RX6 31 "MovingExits$Reader" "position" "I" ∈ TB := tb_in1 (i := 208) (by decide +kernel) rfl
theorem tw1_209 : Cond.fieldLink RX6 37 "MovingExits$Reader" "token" "I" ∈ TB := tb_in1 (i := 209) (by decide +kernel) rfl
theorem tw1_21 : Cond.instanceMethod yX11_init ∈ TB := tb_in1 (i := 21) (by decide +kernel) rfl
theorem tw1_210 : Cond.fieldLink RX6 84 "MovingExits$Reader" "tokenPlace" "I" ∈ TB := tb_in1 (i := 210) (by decide +kernel) rfl
theorem tw1_211 : Cond.fieldLink RX6 145 "MovingExits$Reader" "tokenValue" "I" ∈ TB := tb_in1 (i := 211) (by decide +kernel) rfl
theorem tw1_212 : Cond.fieldLink RX6 68 "MovingExits$Reader" "number" "I" ∈ TB := tb_in1 (i := 212) (by decide +kernel) rfl
theorem tw1_213 : Cond.fieldLink RX6 100 "MovingExits$Reader" "numberPlace" "I" ∈ TB := tb_in1 (i := 213) (by decide +kernel) rfl
theorem tw1_22 : Cond.code yX11_init cX11_init 2 none ∈ TB := tb_in1 (i := 22) rfl rfl
theorem tw1_23 : Cond.methodLink RX11 1 objectInit ∈ TB := tb_in1 (i := 23) (by decide +kernel) rfl
theorem tw1_235 : Cond.classLink RX11 50 RX0 ∈ TB := tb_in1 (i := 235) (by decide +kernel) rfl
theorem tw1_236 : Cond.instantiable RX0 5 ∈ TB := tb_in1 (i := 236) (by decide +kernel) rfl
theorem tw1_237 : Cond.methodLink RX11 52 yX0_init ∈ TB := tb_in1 (i := 237) (by decide +kernel) rfl
theorem tw1_238 : Cond.instanceMethod yX0_init ∈ TB := tb_in1 (i := 238) (by decide +kernel) rfl
theorem tw1_239 : Cond.code yX0_init cX0_init 2 none ∈ TB := tb_in1 (i := 239) rfl rfl
theorem tw1_24 : Cond.instanceMethod objectInit ∈ TB := tb_in1 (i := 24) (by decide +kernel) rfl
theorem tw1_25 : Cond.code objectInit ⟨#[0xb1]⟩ 1 none ∈ TB := tb_in1 (i := 25) rfl rfl
theorem tw1_26 : Cond.classLink RX11 7 RX10 ∈ TB := tb_in1 (i := 26) (by decide +kernel) rfl
theorem tw1_27 : Cond.instantiable RX10 2 ∈ TB := tb_in1 (i := 27) (by decide +kernel) rfl
theorem tw1_29 : Cond.instanceMethod yX10_init ∈ TB := tb_in1 (i := 29) (by decide +kernel) rfl
theorem tw1_3 : Cond.initialized RX5 ∈ TB := tb_in1 (i := 3) (by decide +kernel) rfl
theorem tw1_30 : Cond.code yX10_init cX10_init 1 none ∈ TB := tb_in1 (i := 30) rfl rfl
theorem tw1_31 : Cond.methodLink RX10 3 objectInit ∈ TB := tb_in1 (i := 31) (by decide +kernel) rfl
theorem tw1_32 : Cond.fieldLink RX10 9 "MovingExits$Tape" "bytes" "[B" ∈ TB := tb_in1 (i := 32) (by decide +kernel) rfl
theorem tw1_33 : Cond.fieldLink RX10 15 "MovingExits$Tape" "length" "I" ∈ TB := tb_in1 (i := 33) (by decide +kernel) rfl
theorem tw1_34 : Cond.fieldLink RX11 104 "MovingExits$Tape" "length" "I" ∈ TB := tb_in1 (i := 34) (by decide +kernel) rfl
theorem tw1_4 : Cond.initialized RX1 ∈ TB := tb_in1 (i := 4) (by decide +kernel) rfl
theorem tw1_40 : Cond.arrayClass .byte ∈ TB := tb_in1 (i := 40) (by decide +kernel) rfl
theorem tw1_41 : Cond.classLink RX11 16 RX5 ∈ TB := tb_in1 (i := 41) (by decide +kernel) rfl
theorem tw1_43 : Cond.classLink RX11 26 RX8 ∈ TB := tb_in1 (i := 43) (by decide +kernel) rfl
theorem tw1_45 : Cond.instantiable RX5 16 ∈ TB := tb_in1 (i := 45) (by decide +kernel) rfl
theorem tw1_47 : Cond.instanceMethod yX5_init ∈ TB := tb_in1 (i := 47) (by decide +kernel) rfl
theorem tw1_48 : Cond.code yX5_init cX5_init 1 none ∈ TB := tb_in1 (i := 48) rfl rfl
theorem tw1_49 : Cond.methodLink RX5 3 objectInit ∈ TB := tb_in1 (i := 49) (by decide +kernel) rfl
theorem tw1_5 : Cond.initialized RX8 ∈ TB := tb_in1 (i := 5) (by decide +kernel) rfl
theorem tw1_50 : Cond.classLink RX5 36 RX1 ∈ TB := tb_in1 (i := 50) (by decide +kernel) rfl
theorem tw1_51 : Cond.instantiable RX1 5 ∈ TB := tb_in1 (i := 51) (by decide +kernel) rfl
theorem tw1_53 : Cond.instanceMethod yX1_init ∈ TB := tb_in1 (i := 53) (by decide +kernel) rfl
theorem tw1_54 : Cond.code yX1_init cX1_init 1 none ∈ TB := tb_in1 (i := 54) rfl rfl
theorem tw1_55 : Cond.methodLink RX1 3 objectInit ∈ TB := tb_in1 (i := 55) (by decide +kernel) rfl
theorem tw1_56 : Cond.fieldLink RX1 24 "MovingExits$Changes" "size" "I" ∈ TB := tb_in1 (i := 56) (by decide +kernel) rfl
theorem tw1_57 : Cond.fieldLink RX5 66 "MovingExits$Changes" "size" "I" ∈ TB := tb_in1 (i := 57) (by decide +kernel) rfl
theorem tw1_58 : Cond.fieldLink RX11 315 "MovingExits$Changes" "size" "I" ∈ TB := tb_in1 (i := 58) (by decide +kernel) rfl
theorem tw1_59 : Cond.fieldLink RX1 9 "MovingExits$Changes" "kind" "[I" ∈ TB := tb_in1 (i := 59) (by decide +kernel) rfl
theorem tw1_6 : Cond.initialized RX6 ∈ TB := tb_in1 (i := 6) (by decide +kernel) rfl
theorem tw1_60 : Cond.fieldLink RX5 108 "MovingExits$Changes" "kind" "[I" ∈ TB := tb_in1 (i := 60) (by decide +kernel) rfl
theorem tw1_61 : Cond.fieldLink RX1 15 "MovingExits$Changes" "which" "[I" ∈ TB := tb_in1 (i := 61) (by decide +kernel) rfl
theorem tw1_62 : Cond.fieldLink RX5 105 "MovingExits$Changes" "which" "[I" ∈ TB := tb_in1 (i := 62) (by decide +kernel) rfl
theorem tw1_63 : Cond.fieldLink RX1 18 "MovingExits$Changes" "first" "[I" ∈ TB := tb_in1 (i := 63) (by decide +kernel) rfl
theorem tw1_64 : Cond.fieldLink RX5 111 "MovingExits$Changes" "first" "[I" ∈ TB := tb_in1 (i := 64) (by decide +kernel) rfl
theorem tw1_65 : Cond.fieldLink RX1 21 "MovingExits$Changes" "second" "[I" ∈ TB := tb_in1 (i := 65) (by decide +kernel) rfl
theorem tw1_66 : Cond.fieldLink RX5 114 "MovingExits$Changes" "second" "[I" ∈ TB := tb_in1 (i := 66) (by decide +kernel) rfl
theorem tw1_7 : Cond.initialized RX0 ∈ TB := tb_in1 (i := 7) (by decide +kernel) rfl
theorem tw1_78 : Cond.arrayClass .boolean ∈ TB := tb_in1 (i := 78) (by decide +kernel) rfl
theorem tw1_79 : Cond.arrayClass .int ∈ TB := tb_in1 (i := 79) (by decide +kernel) rfl
theorem tw1_8 : Cond.initialized RX2 ∈ TB := tb_in1 (i := 8) (by decide +kernel) rfl
theorem tw1_80 : Cond.fieldLink RX5 43 "MovingExits$Hall" "lines" "I" ∈ TB := tb_in1 (i := 80) (by decide +kernel) rfl
theorem tw1_81 : Cond.fieldLink RX6 40 "MovingExits$Hall" "lines" "I" ∈ TB := tb_in1 (i := 81) (by decide +kernel) rfl
theorem tw1_82 : Cond.fieldLink RX11 115 "MovingExits$Hall" "lines" "I" ∈ TB := tb_in1 (i := 82) (by decide +kernel) rfl
theorem tw1_83 : Cond.fieldLink RX5 47 "MovingExits$Hall" "rows" "I" ∈ TB := tb_in1 (i := 83) (by decide +kernel) rfl
theorem tw1_84 : Cond.fieldLink RX6 71 "MovingExits$Hall" "rows" "I" ∈ TB := tb_in1 (i := 84) (by decide +kernel) rfl
theorem tw1_85 : Cond.fieldLink RX9 48 "MovingExits$Hall" "rows" "I" ∈ TB := tb_in1 (i := 85) (by decide +kernel) rfl
theorem tw1_86 : Cond.fieldLink RX0 79 "MovingExits$Hall" "rows" "I" ∈ TB := tb_in1 (i := 86) (by decide +kernel) rfl
theorem tw1_87 : Cond.fieldLink RX11 334 "MovingExits$Hall" "rows" "I" ∈ TB := tb_in1 (i := 87) (by decide +kernel) rfl
theorem tw1_88 : Cond.fieldLink RX5 50 "MovingExits$Hall" "seats" "I" ∈ TB := tb_in1 (i := 88) (by decide +kernel) rfl
theorem tw1_89 : Cond.fieldLink RX6 75 "MovingExits$Hall" "seats" "I" ∈ TB := tb_in1 (i := 89) (by decide +kernel) rfl
theorem tw1_9 : Cond.initialized RX4 ∈ TB := tb_in1 (i := 9) (by decide +kernel) rfl
theorem tw1_90 : Cond.fieldLink RX9 51 "MovingExits$Hall" "seats" "I" ∈ TB := tb_in1 (i := 90) (by decide +kernel) rfl
theorem tw1_91 : Cond.fieldLink RX0 82 "MovingExits$Hall" "seats" "I" ∈ TB := tb_in1 (i := 91) (by decide +kernel) rfl
theorem tw1_92 : Cond.fieldLink RX11 337 "MovingExits$Hall" "seats" "I" ∈ TB := tb_in1 (i := 92) (by decide +kernel) rfl
theorem tw1_93 : Cond.fieldLink RX5 53 "MovingExits$Hall" "law" "I" ∈ TB := tb_in1 (i := 93) (by decide +kernel) rfl
theorem tw1_94 : Cond.fieldLink RX6 78 "MovingExits$Hall" "law" "I" ∈ TB := tb_in1 (i := 94) (by decide +kernel) rfl
theorem tw1_95 : Cond.fieldLink RX0 108 "MovingExits$Hall" "law" "I" ∈ TB := tb_in1 (i := 95) (by decide +kernel) rfl
theorem tw1_96 : Cond.fieldLink RX11 237 "MovingExits$Hall" "law" "I" ∈ TB := tb_in1 (i := 96) (by decide +kernel) rfl
theorem tw1_97 : Cond.fieldLink RX5 56 "MovingExits$Hall" "places" "I" ∈ TB := tb_in1 (i := 97) (by decide +kernel) rfl
theorem tw1_98 : Cond.fieldLink RX9 23 "MovingExits$Hall" "places" "I" ∈ TB := tb_in1 (i := 98) (by decide +kernel) rfl
theorem tw1_99 : Cond.fieldLink RX6 81 "MovingExits$Hall" "places" "I" ∈ TB := tb_in1 (i := 99) (by decide +kernel) rfl
theorem tw2_0 : Cond.methodLink RX0 3 objectInit ∈ TB := tb_in2 (i := 0) (by decide +kernel) rfl
theorem tw2_1 : Cond.fieldLink RX0 25 "MovingExits$Acts" "hall" "LMovingExits$Hall;" ∈ TB := tb_in2 (i := 1) (by decide +kernel) rfl
theorem tw2_100 : Cond.instantiable RX9 1 ∈ TB := tb_in2 (i := 100) (by decide +kernel) rfl
theorem tw2_102 : Cond.instanceMethod yX9_init ∈ TB := tb_in2 (i := 102) (by decide +kernel) rfl
theorem tw2_103 : Cond.code yX9_init cX9_init 1 none ∈ TB := tb_in2 (i := 103) rfl rfl
theorem tw2_104 : Cond.methodLink RX9 3 objectInit ∈ TB := tb_in2 (i := 104) (by decide +kernel) rfl
theorem tw2_105 : Cond.fieldLink RX9 9 "MovingExits$Stands" "near" "[J" ∈ TB := tb_in2 (i := 105) (by decide +kernel) rfl
theorem tw2_109 : Cond.classLink RX11 89 RX3 ∈ TB := tb_in2 (i := 109) (by decide +kernel) rfl
theorem tw2_110 : Cond.instantiable RX3 3 ∈ TB := tb_in2 (i := 110) (by decide +kernel) rfl
theorem tw2_111 : Cond.methodLink RX11 91 yX3_init ∈ TB := tb_in2 (i := 111) (by decide +kernel) rfl
theorem tw2_112 : Cond.instanceMethod yX3_init ∈ TB := tb_in2 (i := 112) (by decide +kernel) rfl
theorem tw2_113 : Cond.code yX3_init cX3_init 2 none ∈ TB := tb_in2 (i := 113) rfl rfl
theorem tw2_114 : Cond.methodLink RX3 3 objectInit ∈ TB := tb_in2 (i := 114) (by decide +kernel) rfl
theorem tw2_115 : Cond.fieldLink RX3 9 "MovingExits$Crowd" "comers" "[I" ∈ TB := tb_in2 (i := 115) (by decide +kernel) rfl
theorem tw2_116 : Cond.fieldLink RX11 328 "MovingExits$Crowd" "comers" "[I" ∈ TB := tb_in2 (i := 116) (by decide +kernel) rfl
theorem tw2_117 : Cond.fieldLink RX3 19 "MovingExits$Crowd" "steps" "I" ∈ TB := tb_in2 (i := 117) (by decide +kernel) rfl
theorem tw2_118 : Cond.fieldLink RX11 325 "MovingExits$Crowd" "steps" "I" ∈ TB := tb_in2 (i := 118) (by decide +kernel) rfl
theorem tw2_119 : Cond.fieldLink RX3 15 "MovingExits$Crowd" "acts" "LMovingExits$Acts;" ∈ TB := tb_in2 (i := 119) (by decide +kernel) rfl
theorem tw2_127 : Cond.fieldLink RX11 10 "MovingExits" "tape" "LMovingExits$Tape;" ∈ TB := tb_in2 (i := 127) (by decide +kernel) rfl
theorem tw2_128 : Cond.fieldLink RX11 46 "MovingExits" "reader" "LMovingExits$Reader;" ∈ TB := tb_in2 (i := 128) (by decide +kernel) rfl
theorem tw2_129 : Cond.fieldLink RX11 18 "MovingExits" "images" "[LMovingExits$Hall;" ∈ TB := tb_in2 (i := 129) (by decide +kernel) rfl
theorem tw2_130 : Cond.fieldLink RX11 22 "MovingExits" "imageMade" "[Z" ∈ TB := tb_in2 (i := 130) (by decide +kernel) rfl
theorem tw2_131 : Cond.fieldLink RX11 28 "MovingExits" "slots" "[LMovingExits$Slot;" ∈ TB := tb_in2 (i := 131) (by decide +kernel) rfl
theorem tw2_132 : Cond.fieldLink RX11 55 "MovingExits" "acts" "LMovingExits$Acts;" ∈ TB := tb_in2 (i := 132) (by decide +kernel) rfl
theorem tw2_133 : Cond.fieldLink RX11 64 "MovingExits" "clues" "LMovingExits$Clues;" ∈ TB := tb_in2 (i := 133) (by decide +kernel) rfl
theorem tw2_134 : Cond.fieldLink RX11 71 "MovingExits" "habits" "LMovingExits$Habits;" ∈ TB := tb_in2 (i := 134) (by decide +kernel) rfl
theorem tw2_135 : Cond.fieldLink RX11 78 "MovingExits" "rush" "LMovingExits$Rush;" ∈ TB := tb_in2 (i := 135) (by decide +kernel) rfl
theorem tw2_136 : Cond.fieldLink RX11 85 "MovingExits" "stands" "LMovingExits$Stands;" ∈ TB := tb_in2 (i := 136) (by decide +kernel) rfl
theorem tw2_137 : Cond.fieldLink RX11 92 "MovingExits" "crowd" "LMovingExits$Crowd;" ∈ TB := tb_in2 (i := 137) (by decide +kernel) rfl
theorem tw2_138 : Cond.fieldLink RX11 33 "MovingExits" "hall" "LMovingExits$Hall;" ∈ TB := tb_in2 (i := 138) (by decide +kernel) rfl
theorem tw2_139 : Cond.fieldLink RX11 37 "MovingExits" "draft" "LMovingExits$Hall;" ∈ TB := tb_in2 (i := 139) (by decide +kernel) rfl
theorem tw2_168 : Cond.instanceMethod yX11_feed ∈ TB := tb_in2 (i := 168) (by decide +kernel) rfl
theorem tw2_169 : Cond.selects RX11 yX11_feed yX11_feed ∈ TB := tb_in2 (i := 169) (by decide +kernel) rfl
theorem tw2_170 : Cond.code yX11_feed cX11_feed 6 (some .int) ∈ TB := tb_in2 (i := 170) rfl rfl
theorem tw2_171 : Cond.methodLink RX11 96 yX10_hasRoom ∈ TB := tb_in2 (i := 171) (by decide +kernel) rfl
theorem tw2_172 : Cond.instanceMethod yX10_hasRoom ∈ TB := tb_in2 (i := 172) (by decide +kernel) rfl
theorem tw2_173 : Cond.selects RX10 yX10_hasRoom yX10_hasRoom ∈ TB := tb_in2 (i := 173) (by decide +kernel) rfl
theorem tw2_174 : Cond.code yX10_hasRoom cX10_hasRoom 1 (some .boolean) ∈ TB := tb_in2 (i := 174) rfl rfl
theorem tw2_175 : Cond.methodLink RX11 100 yX10_add ∈ TB := tb_in2 (i := 175) (by decide +kernel) rfl
theorem tw2_176 : Cond.instanceMethod yX10_add ∈ TB := tb_in2 (i := 176) (by decide +kernel) rfl
theorem tw2_177 : Cond.selects RX10 yX10_add yX10_add ∈ TB := tb_in2 (i := 177) (by decide +kernel) rfl
theorem tw2_178 : Cond.code yX10_add cX10_add 3 none ∈ TB := tb_in2 (i := 178) rfl rfl
theorem tw2_180 : Cond.instanceMethod yX11_end ∈ TB := tb_in2 (i := 180) (by decide +kernel) rfl
theorem tw2_181 : Cond.selects RX11 yX11_end yX11_end ∈ TB := tb_in2 (i := 181) (by decide +kernel) rfl
theorem tw2_182 : Cond.code yX11_end cX11_end 2 (some .int) ∈ TB := tb_in2 (i := 182) rfl rfl
theorem tw2_184 : Cond.instanceMethod yX11_hall ∈ TB := tb_in2 (i := 184) (by decide +kernel) rfl
theorem tw2_185 : Cond.selects RX11 yX11_hall yX11_hall ∈ TB := tb_in2 (i := 185) (by decide +kernel) rfl
theorem tw2_186 : Cond.code yX11_hall cX11_hall 2 (some .int) ∈ TB := tb_in2 (i := 186) rfl rfl
theorem tw2_187 : Cond.methodLink RX11 108 yX6_tell ∈ TB := tb_in2 (i := 187) (by decide +kernel) rfl
theorem tw2_188 : Cond.instanceMethod yX6_tell ∈ TB := tb_in2 (i := 188) (by decide +kernel) rfl
theorem tw2_189 : Cond.selects RX6 yX6_tell yX6_tell ∈ TB := tb_in2 (i := 189) (by decide +kernel) rfl
theorem tw2_190 : Cond.code yX6_tell cX6_tell 4 (some .boolean) ∈ TB := tb_in2 (i := 190) rfl rfl
theorem tw2_191 : Cond.methodLink RX6 23 yX5_clear ∈ TB := tb_in2 (i := 191) (by decide +kernel) rfl
theorem tw2_192 : Cond.instanceMethod yX5_clear ∈ TB := tb_in2 (i := 192) (by decide +kernel) rfl
theorem tw2_193 : Cond.selects RX5 yX5_clear yX5_clear ∈ TB := tb_in2 (i := 193) (by decide +kernel) rfl
theorem tw2_194 : Cond.code yX5_clear cX5_clear 1 none ∈ TB := tb_in2 (i := 194) rfl rfl
theorem tw2_195 : Cond.methodLink RX6 34 yX6_advance ∈ TB := tb_in2 (i := 195) (by decide +kernel) rfl
theorem tw2_197 : Cond.instanceMethod yX6_advance ∈ TB := tb_in2 (i := 197) (by decide +kernel) rfl
theorem tw2_198 : Cond.code yX6_advance cX6_advance 2 none ∈ TB := tb_in2 (i := 198) rfl rfl
theorem tw2_199 : Cond.methodLink RX6 148 yX10_byteAt ∈ TB := tb_in2 (i := 199) (by decide +kernel) rfl
theorem tw2_2 : Cond.fieldLink RX2 25 "MovingExits$Acts" "hall" "LMovingExits$Hall;" ∈ TB := tb_in2 (i := 2) (by decide +kernel) rfl
theorem tw2_200 : Cond.instanceMethod yX10_byteAt ∈ TB := tb_in2 (i := 200) (by decide +kernel) rfl
theorem tw2_201 : Cond.selects RX10 yX10_byteAt yX10_byteAt ∈ TB := tb_in2 (i := 201) (by decide +kernel) rfl
theorem tw2_202 : Cond.code yX10_byteAt cX10_byteAt 2 (some .int) ∈ TB := tb_in2 (i := 202) rfl rfl
theorem tw2_203 : Cond.methodLink RX6 154 yX6_readNumber ∈ TB := tb_in2 (i := 203) (by decide +kernel) rfl
theorem tw2_205 : Cond.instanceMethod yX6_readNumber ∈ TB := tb_in2 (i := 205) (by decide +kernel) rfl
theorem tw2_206 : Cond.code yX6_readNumber cX6_readNumber 2 none ∈ TB := tb_in2 (i := 206) rfl rfl
theorem tw2_207 : Cond.constant RX6 160 (100000) ∈ TB := tb_in2 (i := 207) (by decide +kernel) rfl
theorem tw2_208 : Cond.methodLink RX6 161 yJ9_min_7cf53 ∈ TB := tb_in2 (i := 208) (by decide +kernel) rfl
theorem tw2_209 : Cond.static yJ9_min_7cf53 ∈ TB := tb_in2 (i := 209) (by decide +kernel) rfl
theorem tw2_21 : Cond.classLink RX11 59 RX2 ∈ TB := tb_in2 (i := 21) (by decide +kernel) rfl
theorem tw2_210 : Cond.code yJ9_min_7cf53 cJ9_min_7cf53 2 (some .int) ∈ TB := tb_in2 (i := 210) rfl rfl
theorem tw2_211 : Cond.methodLink RX6 157 yX6_readWord ∈ TB := tb_in2 (i := 211) (by decide +kernel) rfl
theorem tw2_213 : Cond.instanceMethod yX6_readWord ∈ TB := tb_in2 (i := 213) (by decide +kernel) rfl
theorem tw2_214 : Cond.code yX6_readWord cX6_readWord 2 none ∈ TB := tb_in2 (i := 214) rfl rfl
theorem tw2_215 : Cond.methodLink RX6 43 yX6_readHall ∈ TB := tb_in2 (i := 215) (by decide +kernel) rfl
theorem tw2_217 : Cond.instanceMethod yX6_readHall ∈ TB := tb_in2 (i := 217) (by decide +kernel) rfl
theorem tw2_218 : Cond.code yX6_readHall cX6_readHall 1 (some .boolean) ∈ TB := tb_in2 (i := 218) rfl rfl
theorem tw2_219 : Cond.constant RX6 62 (263564) ∈ TB := tb_in2 (i := 219) (by decide +kernel) rfl
theorem tw2_22 : Cond.instantiable RX2 2 ∈ TB := tb_in2 (i := 22) (by decide +kernel) rfl
theorem tw2_220 : Cond.methodLink RX6 58 yX6_take ∈ TB := tb_in2 (i := 220) (by decide +kernel) rfl
theorem tw2_222 : Cond.instanceMethod yX6_take ∈ TB := tb_in2 (i := 222) (by decide +kernel) rfl
theorem tw2_223 : Cond.code yX6_take cX6_take 2 (some .boolean) ∈ TB := tb_in2 (i := 223) rfl rfl
theorem tw2_224 : Cond.methodLink RX6 87 yX6_refuse ∈ TB := tb_in2 (i := 224) (by decide +kernel) rfl
theorem tw2_226 : Cond.instanceMethod yX6_refuse ∈ TB := tb_in2 (i := 226) (by decide +kernel) rfl
theorem tw2_227 : Cond.code yX6_refuse cX6_refuse 3 (some .boolean) ∈ TB := tb_in2 (i := 227) rfl rfl
theorem tw2_228 : Cond.constant RX6 63 (605939) ∈ TB := tb_in2 (i := 228) (by decide +kernel) rfl
theorem tw2_229 : Cond.methodLink RX6 64 yX6_takeNumber ∈ TB := tb_in2 (i := 229) (by decide +kernel) rfl
theorem tw2_23 : Cond.methodLink RX11 61 yX2_init ∈ TB := tb_in2 (i := 23) (by decide +kernel) rfl
theorem tw2_231 : Cond.instanceMethod yX6_takeNumber ∈ TB := tb_in2 (i := 231) (by decide +kernel) rfl
theorem tw2_232 : Cond.code yX6_takeNumber cX6_takeNumber 3 (some .boolean) ∈ TB := tb_in2 (i := 232) rfl rfl
theorem tw2_233 : Cond.constant RX6 74 (20088467) ∈ TB := tb_in2 (i := 233) (by decide +kernel) rfl
theorem tw2_234 : Cond.constant RX6 47 (17171557) ∈ TB := tb_in2 (i := 234) (by decide +kernel) rfl
theorem tw2_235 : Cond.methodLink RX6 48 yX6_readPlace ∈ TB := tb_in2 (i := 235) (by decide +kernel) rfl
theorem tw2_237 : Cond.instanceMethod yX6_readPlace ∈ TB := tb_in2 (i := 237) (by decide +kernel) rfl
theorem tw2_238 : Cond.code yX6_readPlace cX6_readPlace 2 (some .boolean) ∈ TB := tb_in2 (i := 238) rfl rfl
theorem tw2_239 : Cond.methodLink RX6 97 yX5_hasPlaceLike ∈ TB := tb_in2 (i := 239) (by decide +kernel) rfl
theorem tw2_24 : Cond.instanceMethod yX2_init ∈ TB := tb_in2 (i := 24) (by decide +kernel) rfl
theorem tw2_25 : Cond.code yX2_init cX2_init 2 none ∈ TB := tb_in2 (i := 25) rfl rfl
theorem tw2_26 : Cond.methodLink RX2 3 objectInit ∈ TB := tb_in2 (i := 26) (by decide +kernel) rfl
theorem tw2_27 : Cond.fieldLink RX2 15 "MovingExits$Clues" "acts" "LMovingExits$Acts;" ∈ TB := tb_in2 (i := 27) (by decide +kernel) rfl
theorem tw2_28 : Cond.fieldLink RX2 9 "MovingExits$Clues" "actsWith" "[I" ∈ TB := tb_in2 (i := 28) (by decide +kernel) rfl
theorem tw2_3 : Cond.fieldLink RX3 23 "MovingExits$Acts" "hall" "LMovingExits$Hall;" ∈ TB := tb_in2 (i := 3) (by decide +kernel) rfl
theorem tw2_34 : Cond.classLink RX11 68 RX4 ∈ TB := tb_in2 (i := 34) (by decide +kernel) rfl
theorem tw2_35 : Cond.instantiable RX4 2 ∈ TB := tb_in2 (i := 35) (by decide +kernel) rfl
theorem tw2_36 : Cond.methodLink RX11 70 yX4_init ∈ TB := tb_in2 (i := 36) (by decide +kernel) rfl
theorem tw2_37 : Cond.instanceMethod yX4_init ∈ TB := tb_in2 (i := 37) (by decide +kernel) rfl
theorem tw2_38 : Cond.code yX4_init cX4_init 2 none ∈ TB := tb_in2 (i := 38) rfl rfl
theorem tw2_39 : Cond.methodLink RX4 3 objectInit ∈ TB := tb_in2 (i := 39) (by decide +kernel) rfl
theorem tw2_4 : Cond.fieldLink RX7 56 "MovingExits$Acts" "hall" "LMovingExits$Hall;" ∈ TB := tb_in2 (i := 4) (by decide +kernel) rfl
theorem tw2_40 : Cond.fieldLink RX4 15 "MovingExits$Habits" "acts" "LMovingExits$Acts;" ∈ TB := tb_in2 (i := 40) (by decide +kernel) rfl
theorem tw2_41 : Cond.fieldLink RX4 9 "MovingExits$Habits" "goodActs" "[I" ∈ TB := tb_in2 (i := 41) (by decide +kernel) rfl
theorem tw2_47 : Cond.classLink RX11 75 RX7 ∈ TB := tb_in2 (i := 47) (by decide +kernel) rfl
theorem tw2_48 : Cond.instantiable RX7 15 ∈ TB := tb_in2 (i := 48) (by decide +kernel) rfl
theorem tw2_49 : Cond.methodLink RX11 77 yX7_init ∈ TB := tb_in2 (i := 49) (by decide +kernel) rfl
theorem tw2_5 : Cond.fieldLink RX4 25 "MovingExits$Acts" "hall" "LMovingExits$Hall;" ∈ TB := tb_in2 (i := 5) (by decide +kernel) rfl
theorem tw2_50 : Cond.instanceMethod yX7_init ∈ TB := tb_in2 (i := 50) (by decide +kernel) rfl
theorem tw2_51 : Cond.code yX7_init cX7_init 2 none ∈ TB := tb_in2 (i := 51) rfl rfl
theorem tw2_52 : Cond.methodLink RX7 3 objectInit ∈ TB := tb_in2 (i := 52) (by decide +kernel) rfl
theorem tw2_53 : Cond.fieldLink RX7 40 "MovingExits$Rush" "acts" "LMovingExits$Acts;" ∈ TB := tb_in2 (i := 53) (by decide +kernel) rfl
theorem tw2_54 : Cond.fieldLink RX7 9 "MovingExits$Rush" "wide" "[I" ∈ TB := tb_in2 (i := 54) (by decide +kernel) rfl
theorem tw2_55 : Cond.fieldLink RX7 15 "MovingExits$Rush" "distance" "[I" ∈ TB := tb_in2 (i := 55) (by decide +kernel) rfl
theorem tw2_56 : Cond.fieldLink RX7 18 "MovingExits$Rush" "beside" "[I" ∈ TB := tb_in2 (i := 56) (by decide +kernel) rfl
theorem tw2_57 : Cond.fieldLink RX7 21 "MovingExits$Rush" "goesTo" "[I" ∈ TB := tb_in2 (i := 57) (by decide +kernel) rfl
theorem tw2_58 : Cond.fieldLink RX7 24 "MovingExits$Rush" "comesFrom" "[I" ∈ TB := tb_in2 (i := 58) (by decide +kernel) rfl
theorem tw2_59 : Cond.fieldLink RX7 27 "MovingExits$Rush" "ended" "[I" ∈ TB := tb_in2 (i := 59) (by decide +kernel) rfl
theorem tw2_6 : Cond.fieldLink RX0 9 "MovingExits$Acts" "placeIn" "[I" ∈ TB := tb_in2 (i := 6) (by decide +kernel) rfl
theorem tw2_60 : Cond.fieldLink RX7 30 "MovingExits$Rush" "parent" "[I" ∈ TB := tb_in2 (i := 60) (by decide +kernel) rfl
theorem tw2_61 : Cond.fieldLink RX7 33 "MovingExits$Rush" "stack" "[I" ∈ TB := tb_in2 (i := 61) (by decide +kernel) rfl
theorem tw2_62 : Cond.fieldLink RX7 36 "MovingExits$Rush" "reached" "[J" ∈ TB := tb_in2 (i := 62) (by decide +kernel) rfl
theorem tw2_63 : Cond.fieldLink RX7 136 "MovingExits$Rush" "stacked" "I" ∈ TB := tb_in2 (i := 63) (by decide +kernel) rfl
theorem tw2_64 : Cond.fieldLink RX7 129 "MovingExits$Rush" "minutes" "I" ∈ TB := tb_in2 (i := 64) (by decide +kernel) rfl
theorem tw2_65 : Cond.fieldLink RX7 52 "MovingExits$Rush" "gone" "I" ∈ TB := tb_in2 (i := 65) (by decide +kernel) rfl
theorem tw2_66 : Cond.fieldLink RX7 81 "MovingExits$Rush" "waiting" "J" ∈ TB := tb_in2 (i := 66) (by decide +kernel) rfl
theorem tw2_67 : Cond.fieldLink RX7 78 "MovingExits$Rush" "width" "I" ∈ TB := tb_in2 (i := 67) (by decide +kernel) rfl
theorem tw2_7 : Cond.fieldLink RX0 15 "MovingExits$Acts" "isPaced" "[Z" ∈ TB := tb_in2 (i := 7) (by decide +kernel) rfl
theorem tw2_8 : Cond.fieldLink RX0 19 "MovingExits$Acts" "goodSteps" "[I" ∈ TB := tb_in2 (i := 8) (by decide +kernel) rfl
theorem tw2_9 : Cond.fieldLink RX0 22 "MovingExits$Acts" "nearestBehind" "[I" ∈ TB := tb_in2 (i := 9) (by decide +kernel) rfl
theorem tw2_99 : Cond.classLink RX11 82 RX9 ∈ TB := tb_in2 (i := 99) (by decide +kernel) rfl
theorem tw3_0 : Cond.instanceMethod yX5_hasPlaceLike ∈ TB := tb_in3 (i := 0) (by decide +kernel) rfl
theorem tw3_1 : Cond.selects RX5 yX5_hasPlaceLike yX5_hasPlaceLike ∈ TB := tb_in3 (i := 1) (by decide +kernel) rfl
theorem tw3_10 : Cond.instanceMethod yX5_hasExitAt ∈ TB := tb_in3 (i := 10) (by decide +kernel) rfl
theorem tw3_100 : Cond.instanceMethod yX11_at ∈ TB := tb_in3 (i := 100) (by decide +kernel) rfl
theorem tw3_101 : Cond.selects RX11 yX11_at yX11_at ∈ TB := tb_in3 (i := 101) (by decide +kernel) rfl
theorem tw3_102 : Cond.code yX11_at cX11_at 3 (some .int) ∈ TB := tb_in3 (i := 102) rfl rfl
theorem tw3_103 : Cond.methodLink RX11 167 yX11_isAct ∈ TB := tb_in3 (i := 103) (by decide +kernel) rfl
theorem tw3_104 : Cond.static yX11_isAct ∈ TB := tb_in3 (i := 104) (by decide +kernel) rfl
theorem tw3_105 : Cond.code yX11_isAct cX11_isAct 1 (some .boolean) ∈ TB := tb_in3 (i := 105) rfl rfl
theorem tw3_106 : Cond.methodLink RX11 170 yX0_placeOf ∈ TB := tb_in3 (i := 106) (by decide +kernel) rfl
theorem tw3_108 : Cond.instanceMethod yX11_who ∈ TB := tb_in3 (i := 108) (by decide +kernel) rfl
theorem tw3_109 : Cond.selects RX11 yX11_who yX11_who ∈ TB := tb_in3 (i := 109) (by decide +kernel) rfl
theorem tw3_11 : Cond.selects RX5 yX5_hasExitAt yX5_hasExitAt ∈ TB := tb_in3 (i := 11) (by decide +kernel) rfl
theorem tw3_110 : Cond.code yX11_who cX11_who 3 (some .int) ∈ TB := tb_in3 (i := 110) rfl rfl
theorem tw3_111 : Cond.methodLink RX11 173 yX0_exitsAt ∈ TB := tb_in3 (i := 111) (by decide +kernel) rfl
theorem tw3_112 : Cond.instanceMethod yX0_exitsAt ∈ TB := tb_in3 (i := 112) (by decide +kernel) rfl
theorem tw3_113 : Cond.selects RX0 yX0_exitsAt yX0_exitsAt ∈ TB := tb_in3 (i := 113) (by decide +kernel) rfl
theorem tw3_114 : Cond.code yX0_exitsAt cX0_exitsAt 5 (some .int) ∈ TB := tb_in3 (i := 114) rfl rfl
theorem tw3_116 : Cond.instanceMethod yX11_behind ∈ TB := tb_in3 (i := 116) (by decide +kernel) rfl
theorem tw3_117 : Cond.selects RX11 yX11_behind yX11_behind ∈ TB := tb_in3 (i := 117) (by decide +kernel) rfl
theorem tw3_118 : Cond.code yX11_behind cX11_behind 3 (some .int) ∈ TB := tb_in3 (i := 118) rfl rfl
theorem tw3_119 : Cond.methodLink RX11 176 yX0_behindOf ∈ TB := tb_in3 (i := 119) (by decide +kernel) rfl
theorem tw3_12 : Cond.code yX5_hasExitAt cX5_hasExitAt 3 (some .boolean) ∈ TB := tb_in3 (i := 12) rfl rfl
theorem tw3_120 : Cond.instanceMethod yX0_behindOf ∈ TB := tb_in3 (i := 120) (by decide +kernel) rfl
theorem tw3_121 : Cond.selects RX0 yX0_behindOf yX0_behindOf ∈ TB := tb_in3 (i := 121) (by decide +kernel) rfl
theorem tw3_122 : Cond.code yX0_behindOf cX0_behindOf 4 (some .int) ∈ TB := tb_in3 (i := 122) rfl rfl
theorem tw3_123 : Cond.methodLink RX0 60 yX5_hasPlace ∈ TB := tb_in3 (i := 123) (by decide +kernel) rfl
theorem tw3_125 : Cond.instanceMethod yX11_leads ∈ TB := tb_in3 (i := 125) (by decide +kernel) rfl
theorem tw3_126 : Cond.selects RX11 yX11_leads yX11_leads ∈ TB := tb_in3 (i := 126) (by decide +kernel) rfl
theorem tw3_127 : Cond.code yX11_leads cX11_leads 3 (some .int) ∈ TB := tb_in3 (i := 127) rfl rfl
theorem tw3_128 : Cond.methodLink RX11 179 yX5_isTold ∈ TB := tb_in3 (i := 128) (by decide +kernel) rfl
theorem tw3_129 : Cond.instanceMethod yX5_isTold ∈ TB := tb_in3 (i := 129) (by decide +kernel) rfl
theorem tw3_13 : Cond.constant RX6 119 (763013) ∈ TB := tb_in3 (i := 13) (by decide +kernel) rfl
theorem tw3_130 : Cond.selects RX5 yX5_isTold yX5_isTold ∈ TB := tb_in3 (i := 130) (by decide +kernel) rfl
theorem tw3_131 : Cond.code yX5_isTold cX5_isTold 1 (some .boolean) ∈ TB := tb_in3 (i := 131) rfl rfl
theorem tw3_132 : Cond.methodLink RX11 182 yX11_isBehind ∈ TB := tb_in3 (i := 132) (by decide +kernel) rfl
theorem tw3_133 : Cond.static yX11_isBehind ∈ TB := tb_in3 (i := 133) (by decide +kernel) rfl
theorem tw3_134 : Cond.code yX11_isBehind cX11_isBehind 1 (some .boolean) ∈ TB := tb_in3 (i := 134) rfl rfl
theorem tw3_135 : Cond.methodLink RX11 185 yX0_exitsTo ∈ TB := tb_in3 (i := 135) (by decide +kernel) rfl
theorem tw3_136 : Cond.instanceMethod yX0_exitsTo ∈ TB := tb_in3 (i := 136) (by decide +kernel) rfl
theorem tw3_137 : Cond.selects RX0 yX0_exitsTo yX0_exitsTo ∈ TB := tb_in3 (i := 137) (by decide +kernel) rfl
theorem tw3_138 : Cond.code yX0_exitsTo cX0_exitsTo 5 (some .int) ∈ TB := tb_in3 (i := 138) rfl rfl
theorem tw3_139 : Cond.methodLink RX0 70 yX0_behindOf ∈ TB := tb_in3 (i := 139) (by decide +kernel) rfl
theorem tw3_14 : Cond.constant RX6 129 (370119) ∈ TB := tb_in3 (i := 14) (by decide +kernel) rfl
theorem tw3_141 : Cond.instanceMethod yX11_doubles ∈ TB := tb_in3 (i := 141) (by decide +kernel) rfl
theorem tw3_142 : Cond.selects RX11 yX11_doubles yX11_doubles ∈ TB := tb_in3 (i := 142) (by decide +kernel) rfl
theorem tw3_143 : Cond.code yX11_doubles cX11_doubles 2 (some .int) ∈ TB := tb_in3 (i := 143) rfl rfl
theorem tw3_144 : Cond.methodLink RX11 188 yX0_doubledPlaces ∈ TB := tb_in3 (i := 144) (by decide +kernel) rfl
theorem tw3_145 : Cond.instanceMethod yX0_doubledPlaces ∈ TB := tb_in3 (i := 145) (by decide +kernel) rfl
theorem tw3_146 : Cond.selects RX0 yX0_doubledPlaces yX0_doubledPlaces ∈ TB := tb_in3 (i := 146) (by decide +kernel) rfl
theorem tw3_147 : Cond.code yX0_doubledPlaces cX0_doubledPlaces 6 (some .int) ∈ TB := tb_in3 (i := 147) rfl rfl
theorem tw3_149 : Cond.instanceMethod yX11_slip ∈ TB := tb_in3 (i := 149) (by decide +kernel) rfl
theorem tw3_15 : Cond.methodLink RX6 130 yX6_readKing ∈ TB := tb_in3 (i := 15) (by decide +kernel) rfl
theorem tw3_150 : Cond.selects RX11 yX11_slip yX11_slip ∈ TB := tb_in3 (i := 150) (by decide +kernel) rfl
theorem tw3_151 : Cond.code yX11_slip cX11_slip 2 (some .int) ∈ TB := tb_in3 (i := 151) rfl rfl
theorem tw3_153 : Cond.instanceMethod yX11_round ∈ TB := tb_in3 (i := 153) (by decide +kernel) rfl
theorem tw3_154 : Cond.selects RX11 yX11_round yX11_round ∈ TB := tb_in3 (i := 154) (by decide +kernel) rfl
theorem tw3_155 : Cond.code yX11_round cX11_round 2 (some .int) ∈ TB := tb_in3 (i := 155) rfl rfl
theorem tw3_156 : Cond.methodLink RX11 192 yX0_areAlike ∈ TB := tb_in3 (i := 156) (by decide +kernel) rfl
theorem tw3_157 : Cond.instanceMethod yX0_areAlike ∈ TB := tb_in3 (i := 157) (by decide +kernel) rfl
theorem tw3_158 : Cond.selects RX0 yX0_areAlike yX0_areAlike ∈ TB := tb_in3 (i := 158) (by decide +kernel) rfl
theorem tw3_159 : Cond.code yX0_areAlike cX0_areAlike 4 (some .boolean) ∈ TB := tb_in3 (i := 159) rfl rfl
theorem tw3_161 : Cond.instanceMethod yX11_again ∈ TB := tb_in3 (i := 161) (by decide +kernel) rfl
theorem tw3_162 : Cond.selects RX11 yX11_again yX11_again ∈ TB := tb_in3 (i := 162) (by decide +kernel) rfl
theorem tw3_163 : Cond.code yX11_again cX11_again 2 (some .int) ∈ TB := tb_in3 (i := 163) rfl rfl
theorem tw3_164 : Cond.methodLink RX11 195 yX0_isRepeated ∈ TB := tb_in3 (i := 164) (by decide +kernel) rfl
theorem tw3_165 : Cond.instanceMethod yX0_isRepeated ∈ TB := tb_in3 (i := 165) (by decide +kernel) rfl
theorem tw3_166 : Cond.selects RX0 yX0_isRepeated yX0_isRepeated ∈ TB := tb_in3 (i := 166) (by decide +kernel) rfl
theorem tw3_167 : Cond.code yX0_isRepeated cX0_isRepeated 3 (some .boolean) ∈ TB := tb_in3 (i := 167) rfl rfl
theorem tw3_168 : Cond.methodLink RX0 73 yX0_areAlike ∈ TB := tb_in3 (i := 168) (by decide +kernel) rfl
theorem tw3_17 : Cond.instanceMethod yX6_readKing ∈ TB := tb_in3 (i := 17) (by decide +kernel) rfl
theorem tw3_170 : Cond.instanceMethod yX11_next ∈ TB := tb_in3 (i := 170) (by decide +kernel) rfl
theorem tw3_171 : Cond.selects RX11 yX11_next yX11_next ∈ TB := tb_in3 (i := 171) (by decide +kernel) rfl
theorem tw3_172 : Cond.code yX11_next cX11_next 5 (some .int) ∈ TB := tb_in3 (i := 172) rfl rfl
theorem tw3_174 : Cond.instanceMethod yX11_sees ∈ TB := tb_in3 (i := 174) (by decide +kernel) rfl
theorem tw3_175 : Cond.selects RX11 yX11_sees yX11_sees ∈ TB := tb_in3 (i := 175) (by decide +kernel) rfl
theorem tw3_176 : Cond.code yX11_sees cX11_sees 4 (some .int) ∈ TB := tb_in3 (i := 176) rfl rfl
theorem tw3_177 : Cond.methodLink RX11 198 yX11_bit ∈ TB := tb_in3 (i := 177) (by decide +kernel) rfl
theorem tw3_179 : Cond.instanceMethod yX11_far ∈ TB := tb_in3 (i := 179) (by decide +kernel) rfl
theorem tw3_18 : Cond.code yX6_readKing cX6_readKing 3 (some .boolean) ∈ TB := tb_in3 (i := 18) rfl rfl
theorem tw3_180 : Cond.selects RX11 yX11_far yX11_far ∈ TB := tb_in3 (i := 180) (by decide +kernel) rfl
theorem tw3_181 : Cond.code yX11_far cX11_far 4 (some .int) ∈ TB := tb_in3 (i := 181) rfl rfl
theorem tw3_182 : Cond.methodLink RX11 201 yX0_stepsOut ∈ TB := tb_in3 (i := 182) (by decide +kernel) rfl
theorem tw3_183 : Cond.instanceMethod yX0_stepsOut ∈ TB := tb_in3 (i := 183) (by decide +kernel) rfl
theorem tw3_184 : Cond.selects RX0 yX0_stepsOut yX0_stepsOut ∈ TB := tb_in3 (i := 184) (by decide +kernel) rfl
theorem tw3_185 : Cond.code yX0_stepsOut cX0_stepsOut 3 (some .int) ∈ TB := tb_in3 (i := 185) rfl rfl
theorem tw3_186 : Cond.methodLink RX0 96 yX0_paced ∈ TB := tb_in3 (i := 186) (by decide +kernel) rfl
theorem tw3_188 : Cond.instanceMethod yX0_paced ∈ TB := tb_in3 (i := 188) (by decide +kernel) rfl
theorem tw3_189 : Cond.code yX0_paced cX0_paced 3 (some .int) ∈ TB := tb_in3 (i := 189) rfl rfl
theorem tw3_19 : Cond.methodLink RX6 55 yX6_readSits ∈ TB := tb_in3 (i := 19) (by decide +kernel) rfl
theorem tw3_190 : Cond.methodLink RX0 76 yX0_paceAll ∈ TB := tb_in3 (i := 190) (by decide +kernel) rfl
theorem tw3_192 : Cond.instanceMethod yX0_paceAll ∈ TB := tb_in3 (i := 192) (by decide +kernel) rfl
theorem tw3_193 : Cond.code yX0_paceAll cX0_paceAll 11 none ∈ TB := tb_in3 (i := 193) rfl rfl
theorem tw3_195 : Cond.methodLink RX0 88 yX5_stepsBy ∈ TB := tb_in3 (i := 195) (by decide +kernel) rfl
theorem tw3_196 : Cond.instanceMethod yX5_stepsBy ∈ TB := tb_in3 (i := 196) (by decide +kernel) rfl
theorem tw3_197 : Cond.selects RX5 yX5_stepsBy yX5_stepsBy ∈ TB := tb_in3 (i := 197) (by decide +kernel) rfl
theorem tw3_198 : Cond.code yX5_stepsBy cX5_stepsBy 3 (some .int) ∈ TB := tb_in3 (i := 198) rfl rfl
theorem tw3_199 : Cond.methodLink RX5 93 yJ9_abs_0f7a4 ∈ TB := tb_in3 (i := 199) (by decide +kernel) rfl
theorem tw3_2 : Cond.code yX5_hasPlaceLike cX5_hasPlaceLike 3 (some .boolean) ∈ TB := tb_in3 (i := 2) rfl rfl
theorem tw3_200 : Cond.static yJ9_abs_0f7a4 ∈ TB := tb_in3 (i := 200) (by decide +kernel) rfl
theorem tw3_201 : Cond.code yJ9_abs_0f7a4 cJ9_abs_0f7a4 1 (some .int) ∈ TB := tb_in3 (i := 201) rfl rfl
theorem tw3_202 : Cond.methodLink RX0 67 yX5_isGood ∈ TB := tb_in3 (i := 202) (by decide +kernel) rfl
theorem tw3_203 : Cond.instanceMethod yX5_isGood ∈ TB := tb_in3 (i := 203) (by decide +kernel) rfl
theorem tw3_204 : Cond.selects RX5 yX5_isGood yX5_isGood ∈ TB := tb_in3 (i := 204) (by decide +kernel) rfl
theorem tw3_205 : Cond.code yX5_isGood cX5_isGood 2 (some .boolean) ∈ TB := tb_in3 (i := 205) rfl rfl
theorem tw3_206 : Cond.methodLink RX0 91 yJ9_min_7cf53 ∈ TB := tb_in3 (i := 206) (by decide +kernel) rfl
theorem tw3_208 : Cond.instanceMethod yX11_by ∈ TB := tb_in3 (i := 208) (by decide +kernel) rfl
theorem tw3_209 : Cond.selects RX11 yX11_by yX11_by ∈ TB := tb_in3 (i := 209) (by decide +kernel) rfl
theorem tw3_21 : Cond.instanceMethod yX6_readSits ∈ TB := tb_in3 (i := 21) (by decide +kernel) rfl
theorem tw3_210 : Cond.code yX11_by cX11_by 4 (some .int) ∈ TB := tb_in3 (i := 210) rfl rfl
theorem tw3_211 : Cond.methodLink RX11 204 yX0_nearestGood ∈ TB := tb_in3 (i := 211) (by decide +kernel) rfl
theorem tw3_212 : Cond.instanceMethod yX0_nearestGood ∈ TB := tb_in3 (i := 212) (by decide +kernel) rfl
theorem tw3_213 : Cond.selects RX0 yX0_nearestGood yX0_nearestGood ∈ TB := tb_in3 (i := 213) (by decide +kernel) rfl
theorem tw3_214 : Cond.code yX0_nearestGood cX0_nearestGood 6 (some .int) ∈ TB := tb_in3 (i := 214) rfl rfl
theorem tw3_215 : Cond.methodLink RX0 99 yX0_stepsOut ∈ TB := tb_in3 (i := 215) (by decide +kernel) rfl
theorem tw3_217 : Cond.instanceMethod yX11_falls ∈ TB := tb_in3 (i := 217) (by decide +kernel) rfl
theorem tw3_218 : Cond.selects RX11 yX11_falls yX11_falls ∈ TB := tb_in3 (i := 218) (by decide +kernel) rfl
theorem tw3_219 : Cond.code yX11_falls cX11_falls 4 (some .int) ∈ TB := tb_in3 (i := 219) rfl rfl
theorem tw3_22 : Cond.code yX6_readSits cX6_readSits 3 (some .boolean) ∈ TB := tb_in3 (i := 22) rfl rfl
theorem tw3_220 : Cond.methodLink RX11 207 yX0_fallsTo ∈ TB := tb_in3 (i := 220) (by decide +kernel) rfl
theorem tw3_221 : Cond.instanceMethod yX0_fallsTo ∈ TB := tb_in3 (i := 221) (by decide +kernel) rfl
theorem tw3_222 : Cond.selects RX0 yX0_fallsTo yX0_fallsTo ∈ TB := tb_in3 (i := 222) (by decide +kernel) rfl
theorem tw3_223 : Cond.code yX0_fallsTo cX0_fallsTo 3 (some .int) ∈ TB := tb_in3 (i := 223) rfl rfl
theorem tw3_225 : Cond.instanceMethod yX11_best ∈ TB := tb_in3 (i := 225) (by decide +kernel) rfl
theorem tw3_226 : Cond.selects RX11 yX11_best yX11_best ∈ TB := tb_in3 (i := 226) (by decide +kernel) rfl
theorem tw3_227 : Cond.code yX11_best cX11_best 2 (some .int) ∈ TB := tb_in3 (i := 227) rfl rfl
theorem tw3_228 : Cond.methodLink RX11 210 yX0_bestSeat ∈ TB := tb_in3 (i := 228) (by decide +kernel) rfl
theorem tw3_229 : Cond.instanceMethod yX0_bestSeat ∈ TB := tb_in3 (i := 229) (by decide +kernel) rfl
theorem tw3_23 : Cond.constant RX6 133 (632467) ∈ TB := tb_in3 (i := 23) (by decide +kernel) rfl
theorem tw3_230 : Cond.selects RX0 yX0_bestSeat yX0_bestSeat ∈ TB := tb_in3 (i := 230) (by decide +kernel) rfl
theorem tw3_231 : Cond.code yX0_bestSeat cX0_bestSeat 7 (some .int) ∈ TB := tb_in3 (i := 231) rfl rfl
theorem tw3_233 : Cond.instanceMethod yX11_worst ∈ TB := tb_in3 (i := 233) (by decide +kernel) rfl
theorem tw3_234 : Cond.selects RX11 yX11_worst yX11_worst ∈ TB := tb_in3 (i := 234) (by decide +kernel) rfl
theorem tw3_235 : Cond.code yX11_worst cX11_worst 2 (some .int) ∈ TB := tb_in3 (i := 235) rfl rfl
theorem tw3_236 : Cond.methodLink RX11 213 yX0_farthestSteps ∈ TB := tb_in3 (i := 236) (by decide +kernel) rfl
theorem tw3_237 : Cond.instanceMethod yX0_farthestSteps ∈ TB := tb_in3 (i := 237) (by decide +kernel) rfl
theorem tw3_238 : Cond.selects RX0 yX0_farthestSteps yX0_farthestSteps ∈ TB := tb_in3 (i := 238) (by decide +kernel) rfl
theorem tw3_239 : Cond.code yX0_farthestSteps cX0_farthestSteps 5 (some .int) ∈ TB := tb_in3 (i := 239) rfl rfl
theorem tw3_25 : Cond.static yX11_spotOf ∈ TB := tb_in3 (i := 25) (by decide +kernel) rfl
theorem tw3_26 : Cond.code yX11_spotOf cX11_spotOf 2 (some .int) ∈ TB := tb_in3 (i := 26) rfl rfl
theorem tw3_27 : Cond.methodLink RX6 138 yX5_isTaken ∈ TB := tb_in3 (i := 27) (by decide +kernel) rfl
theorem tw3_28 : Cond.instanceMethod yX5_isTaken ∈ TB := tb_in3 (i := 28) (by decide +kernel) rfl
theorem tw3_29 : Cond.selects RX5 yX5_isTaken yX5_isTaken ∈ TB := tb_in3 (i := 29) (by decide +kernel) rfl
theorem tw3_3 : Cond.constant RX6 106 (663726) ∈ TB := tb_in3 (i := 3) (by decide +kernel) rfl
theorem tw3_30 : Cond.code yX5_isTaken cX5_isTaken 2 (some .boolean) ∈ TB := tb_in3 (i := 30) rfl rfl
theorem tw3_32 : Cond.static yX11_spotBit ∈ TB := tb_in3 (i := 32) (by decide +kernel) rfl
theorem tw3_33 : Cond.code yX11_spotBit cX11_spotBit 1 (some .long) ∈ TB := tb_in3 (i := 33) rfl rfl
theorem tw3_34 : Cond.methodLink RX6 141 yX5_setTaken ∈ TB := tb_in3 (i := 34) (by decide +kernel) rfl
theorem tw3_35 : Cond.instanceMethod yX5_setTaken ∈ TB := tb_in3 (i := 35) (by decide +kernel) rfl
theorem tw3_36 : Cond.selects RX5 yX5_setTaken yX5_setTaken ∈ TB := tb_in3 (i := 36) (by decide +kernel) rfl
theorem tw3_37 : Cond.code yX5_setTaken cX5_setTaken 3 none ∈ TB := tb_in3 (i := 37) rfl rfl
theorem tw3_38 : Cond.constantLong RX5 83 (-1) ∈ TB := tb_in3 (i := 38) (by decide +kernel) rfl
theorem tw3_39 : Cond.methodLink RX11 112 yX0_play ∈ TB := tb_in3 (i := 39) (by decide +kernel) rfl
theorem tw3_4 : Cond.constant RX6 51 (188724) ∈ TB := tb_in3 (i := 4) (by decide +kernel) rfl
theorem tw3_40 : Cond.instanceMethod yX0_play ∈ TB := tb_in3 (i := 40) (by decide +kernel) rfl
theorem tw3_41 : Cond.selects RX0 yX0_play yX0_play ∈ TB := tb_in3 (i := 41) (by decide +kernel) rfl
theorem tw3_42 : Cond.code yX0_play cX0_play 3 none ∈ TB := tb_in3 (i := 42) rfl rfl
theorem tw3_43 : Cond.methodLink RX0 38 yX0_turnScrews ∈ TB := tb_in3 (i := 43) (by decide +kernel) rfl
theorem tw3_45 : Cond.instanceMethod yX0_turnScrews ∈ TB := tb_in3 (i := 45) (by decide +kernel) rfl
theorem tw3_46 : Cond.code yX0_turnScrews cX0_turnScrews 5 none ∈ TB := tb_in3 (i := 46) rfl rfl
theorem tw3_47 : Cond.methodLink RX0 42 yX0_staysAsKings ∈ TB := tb_in3 (i := 47) (by decide +kernel) rfl
theorem tw3_49 : Cond.instanceMethod yX0_staysAsKings ∈ TB := tb_in3 (i := 49) (by decide +kernel) rfl
theorem tw3_5 : Cond.methodLink RX6 52 yX6_readExit ∈ TB := tb_in3 (i := 5) (by decide +kernel) rfl
theorem tw3_50 : Cond.code yX0_staysAsKings cX0_staysAsKings 3 (some .boolean) ∈ TB := tb_in3 (i := 50) rfl rfl
theorem tw3_51 : Cond.methodLink RX0 57 yX5_isKings ∈ TB := tb_in3 (i := 51) (by decide +kernel) rfl
theorem tw3_52 : Cond.instanceMethod yX5_isKings ∈ TB := tb_in3 (i := 52) (by decide +kernel) rfl
theorem tw3_53 : Cond.selects RX5 yX5_isKings yX5_isKings ∈ TB := tb_in3 (i := 53) (by decide +kernel) rfl
theorem tw3_54 : Cond.code yX5_isKings cX5_isKings 3 (some .boolean) ∈ TB := tb_in3 (i := 54) rfl rfl
theorem tw3_55 : Cond.methodLink RX5 99 yX5_hasExit ∈ TB := tb_in3 (i := 55) (by decide +kernel) rfl
theorem tw3_56 : Cond.instanceMethod yX5_hasExit ∈ TB := tb_in3 (i := 56) (by decide +kernel) rfl
theorem tw3_57 : Cond.selects RX5 yX5_hasExit yX5_hasExit ∈ TB := tb_in3 (i := 57) (by decide +kernel) rfl
theorem tw3_58 : Cond.code yX5_hasExit cX5_hasExit 2 (some .boolean) ∈ TB := tb_in3 (i := 58) rfl rfl
theorem tw3_59 : Cond.methodLink RX0 46 yX0_placeOf ∈ TB := tb_in3 (i := 59) (by decide +kernel) rfl
theorem tw3_60 : Cond.instanceMethod yX0_placeOf ∈ TB := tb_in3 (i := 60) (by decide +kernel) rfl
theorem tw3_61 : Cond.selects RX0 yX0_placeOf yX0_placeOf ∈ TB := tb_in3 (i := 61) (by decide +kernel) rfl
theorem tw3_62 : Cond.code yX0_placeOf cX0_placeOf 3 (some .int) ∈ TB := tb_in3 (i := 62) rfl rfl
theorem tw3_64 : Cond.static yX11_bit ∈ TB := tb_in3 (i := 64) (by decide +kernel) rfl
theorem tw3_65 : Cond.code yX11_bit cX11_bit 1 (some .int) ∈ TB := tb_in3 (i := 65) rfl rfl
theorem tw3_66 : Cond.methodLink RX0 54 yX5_placeAfter ∈ TB := tb_in3 (i := 66) (by decide +kernel) rfl
theorem tw3_67 : Cond.instanceMethod yX5_placeAfter ∈ TB := tb_in3 (i := 67) (by decide +kernel) rfl
theorem tw3_68 : Cond.selects RX5 yX5_placeAfter yX5_placeAfter ∈ TB := tb_in3 (i := 68) (by decide +kernel) rfl
theorem tw3_69 : Cond.code yX5_placeAfter cX5_placeAfter 5 (some .int) ∈ TB := tb_in3 (i := 69) rfl rfl
theorem tw3_7 : Cond.instanceMethod yX6_readExit ∈ TB := tb_in3 (i := 7) (by decide +kernel) rfl
theorem tw3_70 : Cond.methodLink RX5 85 yX5_hasPlace ∈ TB := tb_in3 (i := 70) (by decide +kernel) rfl
theorem tw3_71 : Cond.instanceMethod yX5_hasPlace ∈ TB := tb_in3 (i := 71) (by decide +kernel) rfl
theorem tw3_72 : Cond.selects RX5 yX5_hasPlace yX5_hasPlace ∈ TB := tb_in3 (i := 72) (by decide +kernel) rfl
theorem tw3_73 : Cond.code yX5_hasPlace cX5_hasPlace 2 (some .boolean) ∈ TB := tb_in3 (i := 73) rfl rfl
theorem tw3_76 : Cond.instanceMethod yX11_fault ∈ TB := tb_in3 (i := 76) (by decide +kernel) rfl
theorem tw3_77 : Cond.selects RX11 yX11_fault yX11_fault ∈ TB := tb_in3 (i := 77) (by decide +kernel) rfl
theorem tw3_78 : Cond.code yX11_fault cX11_fault 2 (some .int) ∈ TB := tb_in3 (i := 78) rfl rfl
theorem tw3_8 : Cond.code yX6_readExit cX6_readExit 2 (some .boolean) ∈ TB := tb_in3 (i := 8) rfl rfl
theorem tw3_80 : Cond.instanceMethod yX11_place ∈ TB := tb_in3 (i := 80) (by decide +kernel) rfl
theorem tw3_81 : Cond.selects RX11 yX11_place yX11_place ∈ TB := tb_in3 (i := 81) (by decide +kernel) rfl
theorem tw3_82 : Cond.code yX11_place cX11_place 3 (some .int) ∈ TB := tb_in3 (i := 82) rfl rfl
theorem tw3_83 : Cond.methodLink RX11 124 yX5_hasPlace ∈ TB := tb_in3 (i := 83) (by decide +kernel) rfl
theorem tw3_85 : Cond.instanceMethod yX11_exit ∈ TB := tb_in3 (i := 85) (by decide +kernel) rfl
theorem tw3_86 : Cond.selects RX11 yX11_exit yX11_exit ∈ TB := tb_in3 (i := 86) (by decide +kernel) rfl
theorem tw3_87 : Cond.code yX11_exit cX11_exit 3 (some .int) ∈ TB := tb_in3 (i := 87) rfl rfl
theorem tw3_88 : Cond.methodLink RX11 141 yX5_hasExit ∈ TB := tb_in3 (i := 88) (by decide +kernel) rfl
theorem tw3_9 : Cond.methodLink RX6 113 yX5_hasExitAt ∈ TB := tb_in3 (i := 9) (by decide +kernel) rfl
theorem tw3_90 : Cond.instanceMethod yX11_sits ∈ TB := tb_in3 (i := 90) (by decide +kernel) rfl
theorem tw3_91 : Cond.selects RX11 yX11_sits yX11_sits ∈ TB := tb_in3 (i := 91) (by decide +kernel) rfl
theorem tw3_92 : Cond.code yX11_sits cX11_sits 3 (some .int) ∈ TB := tb_in3 (i := 92) rfl rfl
theorem tw3_93 : Cond.methodLink RX11 156 yX5_hasSeat ∈ TB := tb_in3 (i := 93) (by decide +kernel) rfl
theorem tw3_94 : Cond.instanceMethod yX5_hasSeat ∈ TB := tb_in3 (i := 94) (by decide +kernel) rfl
theorem tw3_95 : Cond.selects RX5 yX5_hasSeat yX5_hasSeat ∈ TB := tb_in3 (i := 95) (by decide +kernel) rfl
theorem tw3_96 : Cond.code yX5_hasSeat cX5_hasSeat 3 (some .boolean) ∈ TB := tb_in3 (i := 96) rfl rfl
theorem tw3_97 : Cond.methodLink RX11 160 yX11_spotOf ∈ TB := tb_in3 (i := 97) (by decide +kernel) rfl
theorem tw3_98 : Cond.methodLink RX11 164 yX5_isTaken ∈ TB := tb_in3 (i := 98) (by decide +kernel) rfl
theorem tw4_0 : Cond.methodLink RX0 102 yJ9_max_7cf53 ∈ TB := tb_in4 (i := 0) (by decide +kernel) rfl
theorem tw4_1 : Cond.static yJ9_max_7cf53 ∈ TB := tb_in4 (i := 1) (by decide +kernel) rfl
theorem tw4_10 : Cond.code yX0_isLawful cX0_isLawful 3 (some .boolean) ∈ TB := tb_in4 (i := 10) rfl rfl
theorem tw4_100 : Cond.selects RX11 yX11_soonest yX11_soonest ∈ TB := tb_in4 (i := 100) (by decide +kernel) rfl
theorem tw4_101 : Cond.code yX11_soonest cX11_soonest 2 (some .int) ∈ TB := tb_in4 (i := 101) rfl rfl
theorem tw4_102 : Cond.methodLink RX11 223 yX7_minutesOfAll ∈ TB := tb_in4 (i := 102) (by decide +kernel) rfl
theorem tw4_103 : Cond.instanceMethod yX7_minutesOfAll ∈ TB := tb_in4 (i := 103) (by decide +kernel) rfl
theorem tw4_104 : Cond.selects RX7 yX7_minutesOfAll yX7_minutesOfAll ∈ TB := tb_in4 (i := 104) (by decide +kernel) rfl
theorem tw4_105 : Cond.code yX7_minutesOfAll cX7_minutesOfAll 5 (some .int) ∈ TB := tb_in4 (i := 105) rfl rfl
theorem tw4_106 : Cond.methodLink RX7 74 yX7_fewestThinkable ∈ TB := tb_in4 (i := 106) (by decide +kernel) rfl
theorem tw4_108 : Cond.instanceMethod yX7_fewestThinkable ∈ TB := tb_in4 (i := 108) (by decide +kernel) rfl
theorem tw4_109 : Cond.code yX7_fewestThinkable cX7_fewestThinkable 3 (some .int) ∈ TB := tb_in4 (i := 109) rfl rfl
theorem tw4_11 : Cond.methodLink RX0 105 yX0_farthestSteps ∈ TB := tb_in4 (i := 11) (by decide +kernel) rfl
theorem tw4_110 : Cond.methodLink RX7 88 yJ9_max_7cf53 ∈ TB := tb_in4 (i := 110) (by decide +kernel) rfl
theorem tw4_112 : Cond.instanceMethod yX11_quickest ∈ TB := tb_in4 (i := 112) (by decide +kernel) rfl
theorem tw4_113 : Cond.selects RX11 yX11_quickest yX11_quickest ∈ TB := tb_in4 (i := 113) (by decide +kernel) rfl
theorem tw4_114 : Cond.code yX11_quickest cX11_quickest 6 (some .int) ∈ TB := tb_in4 (i := 114) rfl rfl
theorem tw4_115 : Cond.methodLink RX11 226 yX11_isCountOfActs ∈ TB := tb_in4 (i := 115) (by decide +kernel) rfl
theorem tw4_116 : Cond.static yX11_isCountOfActs ∈ TB := tb_in4 (i := 116) (by decide +kernel) rfl
theorem tw4_117 : Cond.code yX11_isCountOfActs cX11_isCountOfActs 1 (some .boolean) ∈ TB := tb_in4 (i := 117) rfl rfl
theorem tw4_119 : Cond.instanceMethod yX11_wider ∈ TB := tb_in4 (i := 119) (by decide +kernel) rfl
theorem tw4_120 : Cond.selects RX11 yX11_wider yX11_wider ∈ TB := tb_in4 (i := 120) (by decide +kernel) rfl
theorem tw4_121 : Cond.code yX11_wider cX11_wider 4 (some .int) ∈ TB := tb_in4 (i := 121) rfl rfl
theorem tw4_123 : Cond.instanceMethod yX11_stand ∈ TB := tb_in4 (i := 123) (by decide +kernel) rfl
theorem tw4_124 : Cond.selects RX11 yX11_stand yX11_stand ∈ TB := tb_in4 (i := 124) (by decide +kernel) rfl
theorem tw4_125 : Cond.code yX11_stand cX11_stand 2 (some .int) ∈ TB := tb_in4 (i := 125) rfl rfl
theorem tw4_126 : Cond.methodLink RX11 229 yX9_leastWorst ∈ TB := tb_in4 (i := 126) (by decide +kernel) rfl
theorem tw4_127 : Cond.instanceMethod yX9_leastWorst ∈ TB := tb_in4 (i := 127) (by decide +kernel) rfl
theorem tw4_128 : Cond.selects RX9 yX9_leastWorst yX9_leastWorst ∈ TB := tb_in4 (i := 128) (by decide +kernel) rfl
theorem tw4_129 : Cond.code yX9_leastWorst cX9_leastWorst 4 (some .int) ∈ TB := tb_in4 (i := 129) rfl rfl
theorem tw4_13 : Cond.instanceMethod yX11_breaks ∈ TB := tb_in4 (i := 13) (by decide +kernel) rfl
theorem tw4_130 : Cond.methodLink RX9 15 yX9_leastSet ∈ TB := tb_in4 (i := 130) (by decide +kernel) rfl
theorem tw4_131 : Cond.instanceMethod yX9_leastSet ∈ TB := tb_in4 (i := 131) (by decide +kernel) rfl
theorem tw4_132 : Cond.selects RX9 yX9_leastSet yX9_leastSet ∈ TB := tb_in4 (i := 132) (by decide +kernel) rfl
theorem tw4_133 : Cond.code yX9_leastSet cX9_leastSet 9 (some .int) ∈ TB := tb_in4 (i := 133) rfl rfl
theorem tw4_134 : Cond.methodLink RX9 19 yX9_spotsWithin ∈ TB := tb_in4 (i := 134) (by decide +kernel) rfl
theorem tw4_135 : Cond.static yX9_spotsWithin ∈ TB := tb_in4 (i := 135) (by decide +kernel) rfl
theorem tw4_136 : Cond.code yX9_spotsWithin cX9_spotsWithin 8 (some .long) ∈ TB := tb_in4 (i := 136) rfl rfl
theorem tw4_138 : Cond.methodLink RX9 57 yX5_stepsBy ∈ TB := tb_in4 (i := 138) (by decide +kernel) rfl
theorem tw4_14 : Cond.selects RX11 yX11_breaks yX11_breaks ∈ TB := tb_in4 (i := 14) (by decide +kernel) rfl
theorem tw4_140 : Cond.methodLink RX9 29 yJ9_min_7cf53 ∈ TB := tb_in4 (i := 140) (by decide +kernel) rfl
theorem tw4_141 : Cond.methodLink RX9 35 yJ9_max_7cf53 ∈ TB := tb_in4 (i := 141) (by decide +kernel) rfl
theorem tw4_142 : Cond.methodLink RX9 38 yJ6_bitCount_0f7a4 ∈ TB := tb_in4 (i := 142) (by decide +kernel) rfl
theorem tw4_143 : Cond.static yJ6_bitCount_0f7a4 ∈ TB := tb_in4 (i := 143) (by decide +kernel) rfl
theorem tw4_144 : Cond.code yJ6_bitCount_0f7a4 cJ6_bitCount_0f7a4 1 (some .int) ∈ TB := tb_in4 (i := 144) rfl rfl
theorem tw4_145 : Cond.constant RJ6 265 (1431655765) ∈ TB := tb_in4 (i := 145) (by decide +kernel) rfl
theorem tw4_146 : Cond.constant RJ6 266 (858993459) ∈ TB := tb_in4 (i := 146) (by decide +kernel) rfl
theorem tw4_147 : Cond.constant RJ6 267 (252645135) ∈ TB := tb_in4 (i := 147) (by decide +kernel) rfl
theorem tw4_148 : Cond.methodLink RX9 44 yX9_areGood ∈ TB := tb_in4 (i := 148) (by decide +kernel) rfl
theorem tw4_149 : Cond.static yX9_areGood ∈ TB := tb_in4 (i := 149) (by decide +kernel) rfl
theorem tw4_15 : Cond.code yX11_breaks cX11_breaks 3 (some .int) ∈ TB := tb_in4 (i := 15) rfl rfl
theorem tw4_150 : Cond.code yX9_areGood cX9_areGood 3 (some .boolean) ∈ TB := tb_in4 (i := 150) rfl rfl
theorem tw4_152 : Cond.methodLink RX9 67 yX5_isGood ∈ TB := tb_in4 (i := 152) (by decide +kernel) rfl
theorem tw4_154 : Cond.instanceMethod yX11_stands ∈ TB := tb_in4 (i := 154) (by decide +kernel) rfl
theorem tw4_155 : Cond.selects RX11 yX11_stands yX11_stands ∈ TB := tb_in4 (i := 155) (by decide +kernel) rfl
theorem tw4_156 : Cond.code yX11_stands cX11_stands 3 (some .int) ∈ TB := tb_in4 (i := 156) rfl rfl
theorem tw4_157 : Cond.methodLink RX11 233 yX9_leastSet ∈ TB := tb_in4 (i := 157) (by decide +kernel) rfl
theorem tw4_159 : Cond.instanceMethod yX11_needs ∈ TB := tb_in4 (i := 159) (by decide +kernel) rfl
theorem tw4_160 : Cond.selects RX11 yX11_needs yX11_needs ∈ TB := tb_in4 (i := 160) (by decide +kernel) rfl
theorem tw4_161 : Cond.code yX11_needs cX11_needs 2 (some .int) ∈ TB := tb_in4 (i := 161) rfl rfl
theorem tw4_163 : Cond.instanceMethod yX11_wind ∈ TB := tb_in4 (i := 163) (by decide +kernel) rfl
theorem tw4_164 : Cond.selects RX11 yX11_wind yX11_wind ∈ TB := tb_in4 (i := 164) (by decide +kernel) rfl
theorem tw4_165 : Cond.code yX11_wind cX11_wind 2 (some .int) ∈ TB := tb_in4 (i := 165) rfl rfl
theorem tw4_166 : Cond.methodLink RX11 240 yX0_windyPairs ∈ TB := tb_in4 (i := 166) (by decide +kernel) rfl
theorem tw4_167 : Cond.instanceMethod yX0_windyPairs ∈ TB := tb_in4 (i := 167) (by decide +kernel) rfl
theorem tw4_168 : Cond.selects RX0 yX0_windyPairs yX0_windyPairs ∈ TB := tb_in4 (i := 168) (by decide +kernel) rfl
theorem tw4_169 : Cond.code yX0_windyPairs cX0_windyPairs 5 (some .int) ∈ TB := tb_in4 (i := 169) rfl rfl
theorem tw4_17 : Cond.instanceMethod yX11_screws ∈ TB := tb_in4 (i := 17) (by decide +kernel) rfl
theorem tw4_170 : Cond.methodLink RX0 111 yX0_isDraught ∈ TB := tb_in4 (i := 170) (by decide +kernel) rfl
theorem tw4_172 : Cond.instanceMethod yX0_isDraught ∈ TB := tb_in4 (i := 172) (by decide +kernel) rfl
theorem tw4_173 : Cond.code yX0_isDraught cX0_isDraught 3 (some .boolean) ∈ TB := tb_in4 (i := 173) rfl rfl
theorem tw4_175 : Cond.instanceMethod yX11_calmest ∈ TB := tb_in4 (i := 175) (by decide +kernel) rfl
theorem tw4_176 : Cond.selects RX11 yX11_calmest yX11_calmest ∈ TB := tb_in4 (i := 176) (by decide +kernel) rfl
theorem tw4_177 : Cond.code yX11_calmest cX11_calmest 6 (some .int) ∈ TB := tb_in4 (i := 177) rfl rfl
theorem tw4_179 : Cond.instanceMethod yX11_seen ∈ TB := tb_in4 (i := 179) (by decide +kernel) rfl
theorem tw4_18 : Cond.selects RX11 yX11_screws yX11_screws ∈ TB := tb_in4 (i := 18) (by decide +kernel) rfl
theorem tw4_180 : Cond.selects RX11 yX11_seen yX11_seen ∈ TB := tb_in4 (i := 180) (by decide +kernel) rfl
theorem tw4_181 : Cond.code yX11_seen cX11_seen 3 (some .long) ∈ TB := tb_in4 (i := 181) rfl rfl
theorem tw4_182 : Cond.methodLink RX11 243 yX11_refusalOfSeen ∈ TB := tb_in4 (i := 182) (by decide +kernel) rfl
theorem tw4_184 : Cond.instanceMethod yX11_refusalOfSeen ∈ TB := tb_in4 (i := 184) (by decide +kernel) rfl
theorem tw4_185 : Cond.code yX11_refusalOfSeen cX11_refusalOfSeen 3 (some .int) ∈ TB := tb_in4 (i := 185) rfl rfl
theorem tw4_186 : Cond.methodLink RX11 383 yX11_refusalOfRow ∈ TB := tb_in4 (i := 186) (by decide +kernel) rfl
theorem tw4_188 : Cond.instanceMethod yX11_refusalOfRow ∈ TB := tb_in4 (i := 188) (by decide +kernel) rfl
theorem tw4_189 : Cond.code yX11_refusalOfRow cX11_refusalOfRow 3 (some .int) ∈ TB := tb_in4 (i := 189) rfl rfl
theorem tw4_19 : Cond.code yX11_screws cX11_screws 3 (some .int) ∈ TB := tb_in4 (i := 19) rfl rfl
theorem tw4_190 : Cond.methodLink RX11 351 yX11_isSlot ∈ TB := tb_in4 (i := 190) (by decide +kernel) rfl
theorem tw4_191 : Cond.static yX11_isSlot ∈ TB := tb_in4 (i := 191) (by decide +kernel) rfl
theorem tw4_192 : Cond.code yX11_isSlot cX11_isSlot 1 (some .boolean) ∈ TB := tb_in4 (i := 192) rfl rfl
theorem tw4_193 : Cond.methodLink RX11 358 yX8_hasRow ∈ TB := tb_in4 (i := 193) (by decide +kernel) rfl
theorem tw4_194 : Cond.instanceMethod yX8_hasRow ∈ TB := tb_in4 (i := 194) (by decide +kernel) rfl
theorem tw4_195 : Cond.selects RX8 yX8_hasRow yX8_hasRow ∈ TB := tb_in4 (i := 195) (by decide +kernel) rfl
theorem tw4_196 : Cond.code yX8_hasRow cX8_hasRow 1 (some .boolean) ∈ TB := tb_in4 (i := 196) rfl rfl
theorem tw4_197 : Cond.methodLink RX11 386 yX2_areExitsAndPlaces ∈ TB := tb_in4 (i := 197) (by decide +kernel) rfl
theorem tw4_198 : Cond.instanceMethod yX2_areExitsAndPlaces ∈ TB := tb_in4 (i := 198) (by decide +kernel) rfl
theorem tw4_199 : Cond.selects RX2 yX2_areExitsAndPlaces yX2_areExitsAndPlaces ∈ TB := tb_in4 (i := 199) (by decide +kernel) rfl
theorem tw4_2 : Cond.code yJ9_max_7cf53 cJ9_max_7cf53 2 (some .int) ∈ TB := tb_in4 (i := 2) rfl rfl
theorem tw4_200 : Cond.code yX2_areExitsAndPlaces cX2_areExitsAndPlaces 3 (some .boolean) ∈ TB := tb_in4 (i := 200) rfl rfl
theorem tw4_201 : Cond.methodLink RX2 31 yX8_small ∈ TB := tb_in4 (i := 201) (by decide +kernel) rfl
theorem tw4_202 : Cond.instanceMethod yX8_small ∈ TB := tb_in4 (i := 202) (by decide +kernel) rfl
theorem tw4_203 : Cond.selects RX8 yX8_small yX8_small ∈ TB := tb_in4 (i := 203) (by decide +kernel) rfl
theorem tw4_204 : Cond.code yX8_small cX8_small 2 (some .int) ∈ TB := tb_in4 (i := 204) rfl rfl
theorem tw4_205 : Cond.constantLong RX8 26 (60) ∈ TB := tb_in4 (i := 205) (by decide +kernel) rfl
theorem tw4_206 : Cond.methodLink RX2 35 yX5_hasExit ∈ TB := tb_in4 (i := 206) (by decide +kernel) rfl
theorem tw4_207 : Cond.methodLink RX2 41 yX5_hasPlace ∈ TB := tb_in4 (i := 207) (by decide +kernel) rfl
theorem tw4_208 : Cond.methodLink RX11 246 yX2_actsSeen ∈ TB := tb_in4 (i := 208) (by decide +kernel) rfl
theorem tw4_209 : Cond.instanceMethod yX2_actsSeen ∈ TB := tb_in4 (i := 209) (by decide +kernel) rfl
theorem tw4_21 : Cond.instanceMethod yX11_lawful ∈ TB := tb_in4 (i := 21) (by decide +kernel) rfl
theorem tw4_210 : Cond.selects RX2 yX2_actsSeen yX2_actsSeen ∈ TB := tb_in4 (i := 210) (by decide +kernel) rfl
theorem tw4_211 : Cond.code yX2_actsSeen cX2_actsSeen 6 (some .long) ∈ TB := tb_in4 (i := 211) rfl rfl
theorem tw4_212 : Cond.constantLong RX2 51 (1152921504606846975) ∈ TB := tb_in4 (i := 212) (by decide +kernel) rfl
theorem tw4_213 : Cond.methodLink RX2 53 yX0_placeOf ∈ TB := tb_in4 (i := 213) (by decide +kernel) rfl
theorem tw4_214 : Cond.constantLong RX2 57 (-1) ∈ TB := tb_in4 (i := 214) (by decide +kernel) rfl
theorem tw4_216 : Cond.instanceMethod yX11_ask ∈ TB := tb_in4 (i := 216) (by decide +kernel) rfl
theorem tw4_217 : Cond.selects RX11 yX11_ask yX11_ask ∈ TB := tb_in4 (i := 217) (by decide +kernel) rfl
theorem tw4_218 : Cond.code yX11_ask cX11_ask 3 (some .int) ∈ TB := tb_in4 (i := 218) rfl rfl
theorem tw4_219 : Cond.methodLink RX11 250 yX2_bestQuestion ∈ TB := tb_in4 (i := 219) (by decide +kernel) rfl
theorem tw4_22 : Cond.selects RX11 yX11_lawful yX11_lawful ∈ TB := tb_in4 (i := 22) (by decide +kernel) rfl
theorem tw4_220 : Cond.instanceMethod yX2_bestQuestion ∈ TB := tb_in4 (i := 220) (by decide +kernel) rfl
theorem tw4_221 : Cond.selects RX2 yX2_bestQuestion yX2_bestQuestion ∈ TB := tb_in4 (i := 221) (by decide +kernel) rfl
theorem tw4_222 : Cond.code yX2_bestQuestion cX2_bestQuestion 7 (some .int) ∈ TB := tb_in4 (i := 222) rfl rfl
theorem tw4_223 : Cond.methodLink RX2 65 yJ13_bitCount_95d88 ∈ TB := tb_in4 (i := 223) (by decide +kernel) rfl
theorem tw4_224 : Cond.methodLink RX2 74 yX2_leftByAsking ∈ TB := tb_in4 (i := 224) (by decide +kernel) rfl
theorem tw4_226 : Cond.instanceMethod yX2_leftByAsking ∈ TB := tb_in4 (i := 226) (by decide +kernel) rfl
theorem tw4_227 : Cond.code yX2_leftByAsking cX2_leftByAsking 7 (some .int) ∈ TB := tb_in4 (i := 227) rfl rfl
theorem tw4_228 : Cond.methodLink RX2 81 yJ9_max_7cf53 ∈ TB := tb_in4 (i := 228) (by decide +kernel) rfl
theorem tw4_23 : Cond.code yX11_lawful cX11_lawful 3 (some .int) ∈ TB := tb_in4 (i := 23) rfl rfl
theorem tw4_230 : Cond.instanceMethod yX11_leaves ∈ TB := tb_in4 (i := 230) (by decide +kernel) rfl
theorem tw4_231 : Cond.selects RX11 yX11_leaves yX11_leaves ∈ TB := tb_in4 (i := 231) (by decide +kernel) rfl
theorem tw4_232 : Cond.code yX11_leaves cX11_leaves 3 (some .int) ∈ TB := tb_in4 (i := 232) rfl rfl
theorem tw4_233 : Cond.methodLink RX11 254 yX2_leftAtWorst ∈ TB := tb_in4 (i := 233) (by decide +kernel) rfl
theorem tw4_234 : Cond.instanceMethod yX2_leftAtWorst ∈ TB := tb_in4 (i := 234) (by decide +kernel) rfl
theorem tw4_235 : Cond.selects RX2 yX2_leftAtWorst yX2_leftAtWorst ∈ TB := tb_in4 (i := 235) (by decide +kernel) rfl
theorem tw4_236 : Cond.code yX2_leftAtWorst cX2_leftAtWorst 4 (some .int) ∈ TB := tb_in4 (i := 236) rfl rfl
theorem tw4_237 : Cond.methodLink RX2 78 yX2_bestQuestion ∈ TB := tb_in4 (i := 237) (by decide +kernel) rfl
theorem tw4_239 : Cond.instanceMethod yX11_fell ∈ TB := tb_in4 (i := 239) (by decide +kernel) rfl
theorem tw4_25 : Cond.instanceMethod yX11_out ∈ TB := tb_in4 (i := 25) (by decide +kernel) rfl
theorem tw4_26 : Cond.selects RX11 yX11_out yX11_out ∈ TB := tb_in4 (i := 26) (by decide +kernel) rfl
theorem tw4_27 : Cond.code yX11_out cX11_out 3 (some .int) ∈ TB := tb_in4 (i := 27) rfl rfl
theorem tw4_28 : Cond.methodLink RX11 219 yX7_mostOut ∈ TB := tb_in4 (i := 28) (by decide +kernel) rfl
theorem tw4_29 : Cond.instanceMethod yX7_mostOut ∈ TB := tb_in4 (i := 29) (by decide +kernel) rfl
theorem tw4_30 : Cond.selects RX7 yX7_mostOut yX7_mostOut ∈ TB := tb_in4 (i := 30) (by decide +kernel) rfl
theorem tw4_31 : Cond.code yX7_mostOut cX7_mostOut 4 (some .int) ∈ TB := tb_in4 (i := 31) rfl rfl
theorem tw4_32 : Cond.methodLink RX7 44 yX7_gather ∈ TB := tb_in4 (i := 32) (by decide +kernel) rfl
theorem tw4_34 : Cond.instanceMethod yX7_gather ∈ TB := tb_in4 (i := 34) (by decide +kernel) rfl
theorem tw4_35 : Cond.code yX7_gather cX7_gather 7 none ∈ TB := tb_in4 (i := 35) rfl rfl
theorem tw4_36 : Cond.methodLink RX7 94 yX0_stepsOut ∈ TB := tb_in4 (i := 36) (by decide +kernel) rfl
theorem tw4_37 : Cond.methodLink RX7 97 yX7_lookRound ∈ TB := tb_in4 (i := 37) (by decide +kernel) rfl
theorem tw4_39 : Cond.instanceMethod yX7_lookRound ∈ TB := tb_in4 (i := 39) (by decide +kernel) rfl
theorem tw4_4 : Cond.instanceMethod yX11_kept ∈ TB := tb_in4 (i := 4) (by decide +kernel) rfl
theorem tw4_40 : Cond.code yX7_lookRound cX7_lookRound 5 none ∈ TB := tb_in4 (i := 40) rfl rfl
theorem tw4_41 : Cond.methodLink RX7 117 yX7_spotOrNone ∈ TB := tb_in4 (i := 41) (by decide +kernel) rfl
theorem tw4_43 : Cond.instanceMethod yX7_spotOrNone ∈ TB := tb_in4 (i := 43) (by decide +kernel) rfl
theorem tw4_44 : Cond.code yX7_spotOrNone cX7_spotOrNone 3 (some .int) ∈ TB := tb_in4 (i := 44) rfl rfl
theorem tw4_45 : Cond.methodLink RX7 120 yX5_hasSeat ∈ TB := tb_in4 (i := 45) (by decide +kernel) rfl
theorem tw4_47 : Cond.methodLink RX7 103 yX0_isGoodExit ∈ TB := tb_in4 (i := 47) (by decide +kernel) rfl
theorem tw4_48 : Cond.instanceMethod yX0_isGoodExit ∈ TB := tb_in4 (i := 48) (by decide +kernel) rfl
theorem tw4_49 : Cond.selects RX0 yX0_isGoodExit yX0_isGoodExit ∈ TB := tb_in4 (i := 49) (by decide +kernel) rfl
theorem tw4_5 : Cond.selects RX11 yX11_kept yX11_kept ∈ TB := tb_in4 (i := 5) (by decide +kernel) rfl
theorem tw4_50 : Cond.code yX0_isGoodExit cX0_isGoodExit 3 (some .boolean) ∈ TB := tb_in4 (i := 50) rfl rfl
theorem tw4_51 : Cond.methodLink RX7 107 yX0_placeOf ∈ TB := tb_in4 (i := 51) (by decide +kernel) rfl
theorem tw4_52 : Cond.methodLink RX7 110 yX5_spotBy ∈ TB := tb_in4 (i := 52) (by decide +kernel) rfl
theorem tw4_53 : Cond.instanceMethod yX5_spotBy ∈ TB := tb_in4 (i := 53) (by decide +kernel) rfl
theorem tw4_54 : Cond.selects RX5 yX5_spotBy yX5_spotBy ∈ TB := tb_in4 (i := 54) (by decide +kernel) rfl
theorem tw4_55 : Cond.code yX5_spotBy cX5_spotBy 2 (some .int) ∈ TB := tb_in4 (i := 55) rfl rfl
theorem tw4_58 : Cond.constantLong RX7 115 (-1) ∈ TB := tb_in4 (i := 58) (by decide +kernel) rfl
theorem tw4_59 : Cond.methodLink RX7 68 yJ13_bitCount_95d88 ∈ TB := tb_in4 (i := 59) (by decide +kernel) rfl
theorem tw4_6 : Cond.code yX11_kept cX11_kept 2 (some .int) ∈ TB := tb_in4 (i := 6) rfl rfl
theorem tw4_60 : Cond.static yJ13_bitCount_95d88 ∈ TB := tb_in4 (i := 60) (by decide +kernel) rfl
theorem tw4_61 : Cond.code yJ13_bitCount_95d88 cJ13_bitCount_95d88 2 (some .int) ∈ TB := tb_in4 (i := 61) rfl rfl
theorem tw4_62 : Cond.constantLong RJ13 314 (6148914691236517205) ∈ TB := tb_in4 (i := 62) (by decide +kernel) rfl
theorem tw4_63 : Cond.constantLong RJ13 316 (3689348814741910323) ∈ TB := tb_in4 (i := 63) (by decide +kernel) rfl
theorem tw4_64 : Cond.constantLong RJ13 318 (1085102592571150095) ∈ TB := tb_in4 (i := 64) (by decide +kernel) rfl
theorem tw4_65 : Cond.methodLink RX7 48 yX7_sendAll ∈ TB := tb_in4 (i := 65) (by decide +kernel) rfl
theorem tw4_67 : Cond.instanceMethod yX7_sendAll ∈ TB := tb_in4 (i := 67) (by decide +kernel) rfl
theorem tw4_68 : Cond.code yX7_sendAll cX7_sendAll 3 none ∈ TB := tb_in4 (i := 68) rfl rfl
theorem tw4_69 : Cond.methodLink RX7 126 yJ9_min_7cf53 ∈ TB := tb_in4 (i := 69) (by decide +kernel) rfl
theorem tw4_7 : Cond.methodLink RX11 216 yX0_isLawful ∈ TB := tb_in4 (i := 7) (by decide +kernel) rfl
theorem tw4_70 : Cond.methodLink RX7 132 yX7_sendOne ∈ TB := tb_in4 (i := 70) (by decide +kernel) rfl
theorem tw4_72 : Cond.instanceMethod yX7_sendOne ∈ TB := tb_in4 (i := 72) (by decide +kernel) rfl
theorem tw4_73 : Cond.code yX7_sendOne cX7_sendOne 5 (some .boolean) ∈ TB := tb_in4 (i := 73) rfl rfl
theorem tw4_74 : Cond.methodLink RX7 139 yX7_canStillEnd ∈ TB := tb_in4 (i := 74) (by decide +kernel) rfl
theorem tw4_76 : Cond.instanceMethod yX7_canStillEnd ∈ TB := tb_in4 (i := 76) (by decide +kernel) rfl
theorem tw4_77 : Cond.code yX7_canStillEnd cX7_canStillEnd 3 (some .boolean) ∈ TB := tb_in4 (i := 77) rfl rfl
theorem tw4_78 : Cond.methodLink RX7 142 yX7_reach ∈ TB := tb_in4 (i := 78) (by decide +kernel) rfl
theorem tw4_8 : Cond.instanceMethod yX0_isLawful ∈ TB := tb_in4 (i := 8) (by decide +kernel) rfl
theorem tw4_80 : Cond.instanceMethod yX7_reach ∈ TB := tb_in4 (i := 80) (by decide +kernel) rfl
theorem tw4_81 : Cond.code yX7_reach cX7_reach 6 none ∈ TB := tb_in4 (i := 81) rfl rfl
theorem tw4_82 : Cond.methodLink RX7 145 yX7_comeIn ∈ TB := tb_in4 (i := 82) (by decide +kernel) rfl
theorem tw4_84 : Cond.instanceMethod yX7_comeIn ∈ TB := tb_in4 (i := 84) (by decide +kernel) rfl
theorem tw4_85 : Cond.code yX7_comeIn cX7_comeIn 5 none ∈ TB := tb_in4 (i := 85) rfl rfl
theorem tw4_86 : Cond.methodLink RX7 154 yX7_turnAsideFromExit ∈ TB := tb_in4 (i := 86) (by decide +kernel) rfl
theorem tw4_88 : Cond.instanceMethod yX7_turnAsideFromExit ∈ TB := tb_in4 (i := 88) (by decide +kernel) rfl
theorem tw4_89 : Cond.code yX7_turnAsideFromExit cX7_turnAsideFromExit 6 none ∈ TB := tb_in4 (i := 89) rfl rfl
theorem tw4_9 : Cond.selects RX0 yX0_isLawful yX0_isLawful ∈ TB := tb_in4 (i := 9) (by decide +kernel) rfl
theorem tw4_90 : Cond.methodLink RX7 148 yX7_goOut ∈ TB := tb_in4 (i := 90) (by decide +kernel) rfl
theorem tw4_92 : Cond.instanceMethod yX7_goOut ∈ TB := tb_in4 (i := 92) (by decide +kernel) rfl
theorem tw4_93 : Cond.code yX7_goOut cX7_goOut 8 (some .int) ∈ TB := tb_in4 (i := 93) rfl rfl
theorem tw4_94 : Cond.methodLink RX7 151 yX7_turnPaths ∈ TB := tb_in4 (i := 94) (by decide +kernel) rfl
theorem tw4_96 : Cond.instanceMethod yX7_turnPaths ∈ TB := tb_in4 (i := 96) (by decide +kernel) rfl
theorem tw4_97 : Cond.code yX7_turnPaths cX7_turnPaths 6 none ∈ TB := tb_in4 (i := 97) rfl rfl
theorem tw4_99 : Cond.instanceMethod yX11_soonest ∈ TB := tb_in4 (i := 99) (by decide +kernel) rfl
theorem tw5_0 : Cond.selects RX11 yX11_fell yX11_fell ∈ TB := tb_in5 (i := 0) (by decide +kernel) rfl
theorem tw5_1 : Cond.code yX11_fell cX11_fell 3 (some .long) ∈ TB := tb_in5 (i := 1) rfl rfl
theorem tw5_10 : Cond.methodLink RX2 44 yX5_hasSeat ∈ TB := tb_in5 (i := 10) (by decide +kernel) rfl
theorem tw5_100 : Cond.code yX11_screw cX11_screw 4 (some .int) ∈ TB := tb_in5 (i := 100) rfl rfl
theorem tw5_101 : Cond.methodLink RX11 300 yX1_isFull ∈ TB := tb_in5 (i := 101) (by decide +kernel) rfl
theorem tw5_102 : Cond.instanceMethod yX1_isFull ∈ TB := tb_in5 (i := 102) (by decide +kernel) rfl
theorem tw5_103 : Cond.selects RX1 yX1_isFull yX1_isFull ∈ TB := tb_in5 (i := 103) (by decide +kernel) rfl
theorem tw5_104 : Cond.code yX1_isFull cX1_isFull 1 (some .boolean) ∈ TB := tb_in5 (i := 104) rfl rfl
theorem tw5_105 : Cond.methodLink RX11 305 yX1_add ∈ TB := tb_in5 (i := 105) (by decide +kernel) rfl
theorem tw5_106 : Cond.instanceMethod yX1_add ∈ TB := tb_in5 (i := 106) (by decide +kernel) rfl
theorem tw5_107 : Cond.selects RX1 yX1_add yX1_add ∈ TB := tb_in5 (i := 107) (by decide +kernel) rfl
theorem tw5_108 : Cond.code yX1_add cX1_add 5 none ∈ TB := tb_in5 (i := 108) rfl rfl
theorem tw5_109 : Cond.methodLink RX1 28 yX1_isFull ∈ TB := tb_in5 (i := 109) (by decide +kernel) rfl
theorem tw5_111 : Cond.instanceMethod yX11_king ∈ TB := tb_in5 (i := 111) (by decide +kernel) rfl
theorem tw5_112 : Cond.selects RX11 yX11_king yX11_king ∈ TB := tb_in5 (i := 112) (by decide +kernel) rfl
theorem tw5_113 : Cond.code yX11_king cX11_king 5 (some .int) ∈ TB := tb_in5 (i := 113) rfl rfl
theorem tw5_115 : Cond.instanceMethod yX11_seats ∈ TB := tb_in5 (i := 115) (by decide +kernel) rfl
theorem tw5_116 : Cond.selects RX11 yX11_seats yX11_seats ∈ TB := tb_in5 (i := 116) (by decide +kernel) rfl
theorem tw5_117 : Cond.code yX11_seats cX11_seats 6 (some .int) ∈ TB := tb_in5 (i := 117) rfl rfl
theorem tw5_118 : Cond.methodLink RX11 308 yX5_setTaken ∈ TB := tb_in5 (i := 118) (by decide +kernel) rfl
theorem tw5_12 : Cond.methodLink RX11 260 yX2_actsFell ∈ TB := tb_in5 (i := 12) (by decide +kernel) rfl
theorem tw5_120 : Cond.instanceMethod yX11_undo ∈ TB := tb_in5 (i := 120) (by decide +kernel) rfl
theorem tw5_121 : Cond.selects RX11 yX11_undo yX11_undo ∈ TB := tb_in5 (i := 121) (by decide +kernel) rfl
theorem tw5_122 : Cond.code yX11_undo cX11_undo 1 (some .int) ∈ TB := tb_in5 (i := 122) rfl rfl
theorem tw5_123 : Cond.methodLink RX11 312 yX5_takeBack ∈ TB := tb_in5 (i := 123) (by decide +kernel) rfl
theorem tw5_124 : Cond.instanceMethod yX5_takeBack ∈ TB := tb_in5 (i := 124) (by decide +kernel) rfl
theorem tw5_125 : Cond.selects RX5 yX5_takeBack yX5_takeBack ∈ TB := tb_in5 (i := 125) (by decide +kernel) rfl
theorem tw5_126 : Cond.code yX5_takeBack cX5_takeBack 3 (some .boolean) ∈ TB := tb_in5 (i := 126) rfl rfl
theorem tw5_127 : Cond.methodLink RX5 117 yX5_setTaken ∈ TB := tb_in5 (i := 127) (by decide +kernel) rfl
theorem tw5_129 : Cond.instanceMethod yX11_drawn ∈ TB := tb_in5 (i := 129) (by decide +kernel) rfl
theorem tw5_13 : Cond.instanceMethod yX2_actsFell ∈ TB := tb_in5 (i := 13) (by decide +kernel) rfl
theorem tw5_130 : Cond.selects RX11 yX11_drawn yX11_drawn ∈ TB := tb_in5 (i := 130) (by decide +kernel) rfl
theorem tw5_131 : Cond.code yX11_drawn cX11_drawn 4 (some .int) ∈ TB := tb_in5 (i := 131) rfl rfl
theorem tw5_132 : Cond.methodLink RX11 318 yX11_canDraw ∈ TB := tb_in5 (i := 132) (by decide +kernel) rfl
theorem tw5_134 : Cond.instanceMethod yX11_canDraw ∈ TB := tb_in5 (i := 134) (by decide +kernel) rfl
theorem tw5_135 : Cond.code yX11_canDraw cX11_canDraw 3 (some .boolean) ∈ TB := tb_in5 (i := 135) rfl rfl
theorem tw5_136 : Cond.constant RX11 382 (2000000000) ∈ TB := tb_in5 (i := 136) (by decide +kernel) rfl
theorem tw5_137 : Cond.methodLink RX11 321 yX3_draw ∈ TB := tb_in5 (i := 137) (by decide +kernel) rfl
theorem tw5_138 : Cond.instanceMethod yX3_draw ∈ TB := tb_in5 (i := 138) (by decide +kernel) rfl
theorem tw5_139 : Cond.selects RX3 yX3_draw yX3_draw ∈ TB := tb_in5 (i := 139) (by decide +kernel) rfl
theorem tw5_14 : Cond.selects RX2 yX2_actsFell yX2_actsFell ∈ TB := tb_in5 (i := 14) (by decide +kernel) rfl
theorem tw5_140 : Cond.code yX3_draw cX3_draw 7 none ∈ TB := tb_in5 (i := 140) rfl rfl
theorem tw5_141 : Cond.methodLink RX3 34 yX5_isTaken ∈ TB := tb_in5 (i := 141) (by decide +kernel) rfl
theorem tw5_142 : Cond.constantLong RX3 38 (1103515245) ∈ TB := tb_in5 (i := 142) (by decide +kernel) rfl
theorem tw5_143 : Cond.constantLong RX3 40 (12345) ∈ TB := tb_in5 (i := 143) (by decide +kernel) rfl
theorem tw5_144 : Cond.constantLong RX3 42 (2147483648) ∈ TB := tb_in5 (i := 144) (by decide +kernel) rfl
theorem tw5_145 : Cond.constantLong RX3 44 (65536) ∈ TB := tb_in5 (i := 145) (by decide +kernel) rfl
theorem tw5_146 : Cond.methodLink RX3 46 yX3_goesOut ∈ TB := tb_in5 (i := 146) (by decide +kernel) rfl
theorem tw5_148 : Cond.instanceMethod yX3_goesOut ∈ TB := tb_in5 (i := 148) (by decide +kernel) rfl
theorem tw5_149 : Cond.code yX3_goesOut cX3_goesOut 5 none ∈ TB := tb_in5 (i := 149) rfl rfl
theorem tw5_15 : Cond.code yX2_actsFell cX2_actsFell 7 (some .long) ∈ TB := tb_in5 (i := 15) rfl rfl
theorem tw5_150 : Cond.methodLink RX3 50 yX0_behindOf ∈ TB := tb_in5 (i := 150) (by decide +kernel) rfl
theorem tw5_152 : Cond.methodLink RX3 57 yX0_placeOf ∈ TB := tb_in5 (i := 152) (by decide +kernel) rfl
theorem tw5_153 : Cond.methodLink RX3 60 yX5_stepsBy ∈ TB := tb_in5 (i := 153) (by decide +kernel) rfl
theorem tw5_155 : Cond.instanceMethod yX11_lucky ∈ TB := tb_in5 (i := 155) (by decide +kernel) rfl
theorem tw5_156 : Cond.selects RX11 yX11_lucky yX11_lucky ∈ TB := tb_in5 (i := 156) (by decide +kernel) rfl
theorem tw5_157 : Cond.code yX11_lucky cX11_lucky 6 (some .int) ∈ TB := tb_in5 (i := 157) rfl rfl
theorem tw5_158 : Cond.methodLink RX11 331 yX3_isLucky ∈ TB := tb_in5 (i := 158) (by decide +kernel) rfl
theorem tw5_159 : Cond.instanceMethod yX3_isLucky ∈ TB := tb_in5 (i := 159) (by decide +kernel) rfl
theorem tw5_160 : Cond.selects RX3 yX3_isLucky yX3_isLucky ∈ TB := tb_in5 (i := 160) (by decide +kernel) rfl
theorem tw5_161 : Cond.code yX3_isLucky cX3_isLucky 1 (some .boolean) ∈ TB := tb_in5 (i := 161) rfl rfl
theorem tw5_163 : Cond.instanceMethod yX11_count ∈ TB := tb_in5 (i := 163) (by decide +kernel) rfl
theorem tw5_164 : Cond.selects RX11 yX11_count yX11_count ∈ TB := tb_in5 (i := 164) (by decide +kernel) rfl
theorem tw5_165 : Cond.code yX11_count cX11_count 2 (some .int) ∈ TB := tb_in5 (i := 165) rfl rfl
theorem tw5_166 : Cond.methodLink RX11 344 yX11_slotsWithRow ∈ TB := tb_in5 (i := 166) (by decide +kernel) rfl
theorem tw5_168 : Cond.instanceMethod yX11_slotsWithRow ∈ TB := tb_in5 (i := 168) (by decide +kernel) rfl
theorem tw5_169 : Cond.code yX11_slotsWithRow cX11_slotsWithRow 3 (some .int) ∈ TB := tb_in5 (i := 169) rfl rfl
theorem tw5_17 : Cond.methodLink RX2 62 yX0_fallsTo ∈ TB := tb_in5 (i := 17) (by decide +kernel) rfl
theorem tw5_171 : Cond.instanceMethod yX11_image ∈ TB := tb_in5 (i := 171) (by decide +kernel) rfl
theorem tw5_172 : Cond.selects RX11 yX11_image yX11_image ∈ TB := tb_in5 (i := 172) (by decide +kernel) rfl
theorem tw5_173 : Cond.code yX11_image cX11_image 2 (some .int) ∈ TB := tb_in5 (i := 173) rfl rfl
theorem tw5_174 : Cond.methodLink RX11 348 yX5_copyFrom ∈ TB := tb_in5 (i := 174) (by decide +kernel) rfl
theorem tw5_175 : Cond.instanceMethod yX5_copyFrom ∈ TB := tb_in5 (i := 175) (by decide +kernel) rfl
theorem tw5_176 : Cond.selects RX5 yX5_copyFrom yX5_copyFrom ∈ TB := tb_in5 (i := 176) (by decide +kernel) rfl
theorem tw5_177 : Cond.code yX5_copyFrom cX5_copyFrom 2 none ∈ TB := tb_in5 (i := 177) rfl rfl
theorem tw5_178 : Cond.methodLink RX5 69 arraycopyName ∈ TB := tb_in5 (i := 178) (by decide +kernel) rfl
theorem tw5_179 : Cond.static arraycopyName ∈ TB := tb_in5 (i := 179) (by decide +kernel) rfl
theorem tw5_180 : Cond.native arraycopyName ∈ TB := tb_in5 (i := 180) (by decide +kernel) rfl
theorem tw5_181 : Cond.methodLink RX5 75 yX1_keep ∈ TB := tb_in5 (i := 181) (by decide +kernel) rfl
theorem tw5_182 : Cond.instanceMethod yX1_keep ∈ TB := tb_in5 (i := 182) (by decide +kernel) rfl
theorem tw5_183 : Cond.selects RX1 yX1_keep yX1_keep ∈ TB := tb_in5 (i := 183) (by decide +kernel) rfl
theorem tw5_184 : Cond.code yX1_keep cX1_keep 2 none ∈ TB := tb_in5 (i := 184) rfl rfl
theorem tw5_185 : Cond.methodLink RX1 32 arraycopyName ∈ TB := tb_in5 (i := 185) (by decide +kernel) rfl
theorem tw5_187 : Cond.instanceMethod yX11_back ∈ TB := tb_in5 (i := 187) (by decide +kernel) rfl
theorem tw5_188 : Cond.selects RX11 yX11_back yX11_back ∈ TB := tb_in5 (i := 188) (by decide +kernel) rfl
theorem tw5_189 : Cond.code yX11_back cX11_back 2 (some .int) ∈ TB := tb_in5 (i := 189) rfl rfl
theorem tw5_19 : Cond.instanceMethod yX11_many ∈ TB := tb_in5 (i := 19) (by decide +kernel) rfl
theorem tw5_191 : Cond.instanceMethod yX11_row ∈ TB := tb_in5 (i := 191) (by decide +kernel) rfl
theorem tw5_192 : Cond.selects RX11 yX11_row yX11_row ∈ TB := tb_in5 (i := 192) (by decide +kernel) rfl
theorem tw5_193 : Cond.code yX11_row cX11_row 4 (some .int) ∈ TB := tb_in5 (i := 193) rfl rfl
theorem tw5_194 : Cond.methodLink RX11 354 yX8_lay ∈ TB := tb_in5 (i := 194) (by decide +kernel) rfl
theorem tw5_195 : Cond.instanceMethod yX8_lay ∈ TB := tb_in5 (i := 195) (by decide +kernel) rfl
theorem tw5_196 : Cond.selects RX8 yX8_lay yX8_lay ∈ TB := tb_in5 (i := 196) (by decide +kernel) rfl
theorem tw5_197 : Cond.code yX8_lay cX8_lay 4 none ∈ TB := tb_in5 (i := 197) rfl rfl
theorem tw5_199 : Cond.instanceMethod yX11_write ∈ TB := tb_in5 (i := 199) (by decide +kernel) rfl
theorem tw5_2 : Cond.methodLink RX11 257 yX11_refusalOfFell ∈ TB := tb_in5 (i := 2) (by decide +kernel) rfl
theorem tw5_20 : Cond.selects RX11 yX11_many yX11_many ∈ TB := tb_in5 (i := 20) (by decide +kernel) rfl
theorem tw5_200 : Cond.selects RX11 yX11_write yX11_write ∈ TB := tb_in5 (i := 200) (by decide +kernel) rfl
theorem tw5_201 : Cond.code yX11_write cX11_write 6 (some .int) ∈ TB := tb_in5 (i := 201) rfl rfl
theorem tw5_202 : Cond.methodLink RX11 362 yX8_put ∈ TB := tb_in5 (i := 202) (by decide +kernel) rfl
theorem tw5_203 : Cond.instanceMethod yX8_put ∈ TB := tb_in5 (i := 203) (by decide +kernel) rfl
theorem tw5_204 : Cond.selects RX8 yX8_put yX8_put ∈ TB := tb_in5 (i := 204) (by decide +kernel) rfl
theorem tw5_205 : Cond.code yX8_put cX8_put 4 none ∈ TB := tb_in5 (i := 205) rfl rfl
theorem tw5_206 : Cond.methodLink RX8 22 yX8_cut ∈ TB := tb_in5 (i := 206) (by decide +kernel) rfl
theorem tw5_208 : Cond.instanceMethod yX8_cut ∈ TB := tb_in5 (i := 208) (by decide +kernel) rfl
theorem tw5_209 : Cond.code yX8_cut cX8_cut 3 (some .long) ∈ TB := tb_in5 (i := 209) rfl rfl
theorem tw5_21 : Cond.code yX11_many cX11_many 3 (some .int) ∈ TB := tb_in5 (i := 21) rfl rfl
theorem tw5_211 : Cond.instanceMethod yX11_paste ∈ TB := tb_in5 (i := 211) (by decide +kernel) rfl
theorem tw5_212 : Cond.selects RX11 yX11_paste yX11_paste ∈ TB := tb_in5 (i := 212) (by decide +kernel) rfl
theorem tw5_213 : Cond.code yX11_paste cX11_paste 8 (some .int) ∈ TB := tb_in5 (i := 213) rfl rfl
theorem tw5_214 : Cond.methodLink RX11 369 yX8_hasRange ∈ TB := tb_in5 (i := 214) (by decide +kernel) rfl
theorem tw5_215 : Cond.instanceMethod yX8_hasRange ∈ TB := tb_in5 (i := 215) (by decide +kernel) rfl
theorem tw5_216 : Cond.selects RX8 yX8_hasRange yX8_hasRange ∈ TB := tb_in5 (i := 216) (by decide +kernel) rfl
theorem tw5_217 : Cond.code yX8_hasRange cX8_hasRange 3 (some .boolean) ∈ TB := tb_in5 (i := 217) rfl rfl
theorem tw5_218 : Cond.methodLink RX11 376 arraycopyName ∈ TB := tb_in5 (i := 218) (by decide +kernel) rfl
theorem tw5_22 : Cond.methodLink RX11 263 yJ13_bitCount_95d88 ∈ TB := tb_in5 (i := 22) (by decide +kernel) rfl
theorem tw5_220 : Cond.instantiable RX12 36 ∈ TB := tb_in5 (i := 220) (by decide +kernel) rfl
theorem tw5_222 : Cond.instanceMethod yX12_init ∈ TB := tb_in5 (i := 222) (by decide +kernel) rfl
theorem tw5_223 : Cond.code yX12_init cX12_init 2 none ∈ TB := tb_in5 (i := 223) rfl rfl
theorem tw5_224 : Cond.methodLink RX12 1 objectInit ∈ TB := tb_in5 (i := 224) (by decide +kernel) rfl
theorem tw5_225 : Cond.fieldLink RX12 74 "MovingExitsModel" "thrown" "I" ∈ TB := tb_in5 (i := 225) (by decide +kernel) rfl
theorem tw5_226 : Cond.fieldLink RX12 7 "MovingExitsModel" "width" "[I" ∈ TB := tb_in5 (i := 226) (by decide +kernel) rfl
theorem tw5_227 : Cond.fieldLink RX12 13 "MovingExitsModel" "many" "[I" ∈ TB := tb_in5 (i := 227) (by decide +kernel) rfl
theorem tw5_228 : Cond.fieldLink RX12 16 "MovingExitsModel" "cells" "[J" ∈ TB := tb_in5 (i := 228) (by decide +kernel) rfl
theorem tw5_229 : Cond.fieldLink RX12 20 "MovingExitsModel" "moved" "[J" ∈ TB := tb_in5 (i := 229) (by decide +kernel) rfl
theorem tw5_230 : Cond.fieldLink RX12 23 "MovingExitsModel" "tape" "[B" ∈ TB := tb_in5 (i := 230) (by decide +kernel) rfl
theorem tw5_231 : Cond.fieldLink RX12 91 "MovingExitsModel" "taped" "I" ∈ TB := tb_in5 (i := 231) (by decide +kernel) rfl
theorem tw5_232 : Cond.fieldLink RX12 98 "MovingExitsModel" "at" "I" ∈ TB := tb_in5 (i := 232) (by decide +kernel) rfl
theorem tw5_233 : Cond.fieldLink RX12 115 "MovingExitsModel" "token" "I" ∈ TB := tb_in5 (i := 233) (by decide +kernel) rfl
theorem tw5_234 : Cond.fieldLink RX12 105 "MovingExitsModel" "place" "I" ∈ TB := tb_in5 (i := 234) (by decide +kernel) rfl
theorem tw5_235 : Cond.fieldLink RX12 108 "MovingExitsModel" "value" "I" ∈ TB := tb_in5 (i := 235) (by decide +kernel) rfl
theorem tw5_236 : Cond.fieldLink RX12 111 "MovingExitsModel" "word" "J" ∈ TB := tb_in5 (i := 236) (by decide +kernel) rfl
theorem tw5_237 : Cond.fieldLink RX12 126 "MovingExitsModel" "bad" "I" ∈ TB := tb_in5 (i := 237) (by decide +kernel) rfl
theorem tw5_238 : Cond.fieldLink RX12 129 "MovingExitsModel" "badPlace" "I" ∈ TB := tb_in5 (i := 238) (by decide +kernel) rfl
theorem tw5_239 : Cond.fieldLink RX12 153 "MovingExitsModel" "fault" "I" ∈ TB := tb_in5 (i := 239) (by decide +kernel) rfl
theorem tw5_24 : Cond.instanceMethod yX11_sure ∈ TB := tb_in5 (i := 24) (by decide +kernel) rfl
theorem tw5_25 : Cond.selects RX11 yX11_sure yX11_sure ∈ TB := tb_in5 (i := 25) (by decide +kernel) rfl
theorem tw5_26 : Cond.code yX11_sure cX11_sure 4 (some .int) ∈ TB := tb_in5 (i := 26) rfl rfl
theorem tw5_27 : Cond.methodLink RX11 268 yX2_onlyPlace ∈ TB := tb_in5 (i := 27) (by decide +kernel) rfl
theorem tw5_28 : Cond.instanceMethod yX2_onlyPlace ∈ TB := tb_in5 (i := 28) (by decide +kernel) rfl
theorem tw5_29 : Cond.selects RX2 yX2_onlyPlace yX2_onlyPlace ∈ TB := tb_in5 (i := 29) (by decide +kernel) rfl
theorem tw5_30 : Cond.code yX2_onlyPlace cX2_onlyPlace 7 (some .int) ∈ TB := tb_in5 (i := 30) rfl rfl
theorem tw5_32 : Cond.instanceMethod yX11_known ∈ TB := tb_in5 (i := 32) (by decide +kernel) rfl
theorem tw5_33 : Cond.selects RX11 yX11_known yX11_known ∈ TB := tb_in5 (i := 33) (by decide +kernel) rfl
theorem tw5_34 : Cond.code yX11_known cX11_known 4 (some .int) ∈ TB := tb_in5 (i := 34) rfl rfl
theorem tw5_35 : Cond.methodLink RX11 272 yX4_stepsKnowing ∈ TB := tb_in5 (i := 35) (by decide +kernel) rfl
theorem tw5_36 : Cond.instanceMethod yX4_stepsKnowing ∈ TB := tb_in5 (i := 36) (by decide +kernel) rfl
theorem tw5_37 : Cond.selects RX4 yX4_stepsKnowing yX4_stepsKnowing ∈ TB := tb_in5 (i := 37) (by decide +kernel) rfl
theorem tw5_38 : Cond.code yX4_stepsKnowing cX4_stepsKnowing 6 (some .int) ∈ TB := tb_in5 (i := 38) rfl rfl
theorem tw5_39 : Cond.methodLink RX4 19 yX0_stepsOut ∈ TB := tb_in5 (i := 39) (by decide +kernel) rfl
theorem tw5_4 : Cond.instanceMethod yX11_refusalOfFell ∈ TB := tb_in5 (i := 4) (by decide +kernel) rfl
theorem tw5_41 : Cond.instanceMethod yX11_blind ∈ TB := tb_in5 (i := 41) (by decide +kernel) rfl
theorem tw5_42 : Cond.selects RX11 yX11_blind yX11_blind ∈ TB := tb_in5 (i := 42) (by decide +kernel) rfl
theorem tw5_43 : Cond.code yX11_blind cX11_blind 5 (some .int) ∈ TB := tb_in5 (i := 43) rfl rfl
theorem tw5_44 : Cond.methodLink RX11 278 yX4_countGoodActs ∈ TB := tb_in5 (i := 44) (by decide +kernel) rfl
theorem tw5_45 : Cond.instanceMethod yX4_countGoodActs ∈ TB := tb_in5 (i := 45) (by decide +kernel) rfl
theorem tw5_46 : Cond.selects RX4 yX4_countGoodActs yX4_countGoodActs ∈ TB := tb_in5 (i := 46) (by decide +kernel) rfl
theorem tw5_47 : Cond.code yX4_countGoodActs cX4_countGoodActs 4 none ∈ TB := tb_in5 (i := 47) rfl rfl
theorem tw5_48 : Cond.methodLink RX4 29 yX5_isGood ∈ TB := tb_in5 (i := 48) (by decide +kernel) rfl
theorem tw5_49 : Cond.methodLink RX4 35 yX0_exitsAt ∈ TB := tb_in5 (i := 49) (by decide +kernel) rfl
theorem tw5_5 : Cond.code yX11_refusalOfFell cX11_refusalOfFell 3 (some .int) ∈ TB := tb_in5 (i := 5) rfl rfl
theorem tw5_50 : Cond.methodLink RX11 281 yX4_bestPlace ∈ TB := tb_in5 (i := 50) (by decide +kernel) rfl
theorem tw5_51 : Cond.instanceMethod yX4_bestPlace ∈ TB := tb_in5 (i := 51) (by decide +kernel) rfl
theorem tw5_52 : Cond.selects RX4 yX4_bestPlace yX4_bestPlace ∈ TB := tb_in5 (i := 52) (by decide +kernel) rfl
theorem tw5_53 : Cond.code yX4_bestPlace cX4_bestPlace 5 (some .int) ∈ TB := tb_in5 (i := 53) rfl rfl
theorem tw5_54 : Cond.methodLink RX4 48 yX4_stepsBlind ∈ TB := tb_in5 (i := 54) (by decide +kernel) rfl
theorem tw5_55 : Cond.instanceMethod yX4_stepsBlind ∈ TB := tb_in5 (i := 55) (by decide +kernel) rfl
theorem tw5_56 : Cond.selects RX4 yX4_stepsBlind yX4_stepsBlind ∈ TB := tb_in5 (i := 56) (by decide +kernel) rfl
theorem tw5_57 : Cond.code yX4_stepsBlind cX4_stepsBlind 5 (some .int) ∈ TB := tb_in5 (i := 57) rfl rfl
theorem tw5_58 : Cond.methodLink RX4 38 yX5_hasPlace ∈ TB := tb_in5 (i := 58) (by decide +kernel) rfl
theorem tw5_59 : Cond.methodLink RX4 41 yX5_stepsBy ∈ TB := tb_in5 (i := 59) (by decide +kernel) rfl
theorem tw5_6 : Cond.methodLink RX11 390 yX2_areSeatsAndBehinds ∈ TB := tb_in5 (i := 6) (by decide +kernel) rfl
theorem tw5_60 : Cond.methodLink RX11 284 yX4_stepsBlind ∈ TB := tb_in5 (i := 60) (by decide +kernel) rfl
theorem tw5_62 : Cond.instanceMethod yX11_goes ∈ TB := tb_in5 (i := 62) (by decide +kernel) rfl
theorem tw5_63 : Cond.selects RX11 yX11_goes yX11_goes ∈ TB := tb_in5 (i := 63) (by decide +kernel) rfl
theorem tw5_64 : Cond.code yX11_goes cX11_goes 4 (some .int) ∈ TB := tb_in5 (i := 64) rfl rfl
theorem tw5_66 : Cond.instanceMethod yX11_worth ∈ TB := tb_in5 (i := 66) (by decide +kernel) rfl
theorem tw5_67 : Cond.selects RX11 yX11_worth yX11_worth ∈ TB := tb_in5 (i := 67) (by decide +kernel) rfl
theorem tw5_68 : Cond.code yX11_worth cX11_worth 4 (some .int) ∈ TB := tb_in5 (i := 68) rfl rfl
theorem tw5_7 : Cond.instanceMethod yX2_areSeatsAndBehinds ∈ TB := tb_in5 (i := 7) (by decide +kernel) rfl
theorem tw5_70 : Cond.instanceMethod yX11_lured ∈ TB := tb_in5 (i := 70) (by decide +kernel) rfl
theorem tw5_71 : Cond.selects RX11 yX11_lured yX11_lured ∈ TB := tb_in5 (i := 71) (by decide +kernel) rfl
theorem tw5_72 : Cond.code yX11_lured cX11_lured 3 (some .int) ∈ TB := tb_in5 (i := 72) rfl rfl
theorem tw5_73 : Cond.methodLink RX11 287 yX0_luredTo ∈ TB := tb_in5 (i := 73) (by decide +kernel) rfl
theorem tw5_74 : Cond.instanceMethod yX0_luredTo ∈ TB := tb_in5 (i := 74) (by decide +kernel) rfl
theorem tw5_75 : Cond.selects RX0 yX0_luredTo yX0_luredTo ∈ TB := tb_in5 (i := 75) (by decide +kernel) rfl
theorem tw5_76 : Cond.code yX0_luredTo cX0_luredTo 5 (some .int) ∈ TB := tb_in5 (i := 76) rfl rfl
theorem tw5_77 : Cond.methodLink RX0 120 yX5_isTaken ∈ TB := tb_in5 (i := 77) (by decide +kernel) rfl
theorem tw5_78 : Cond.methodLink RX0 123 yX0_fallsTo ∈ TB := tb_in5 (i := 78) (by decide +kernel) rfl
theorem tw5_8 : Cond.selects RX2 yX2_areSeatsAndBehinds yX2_areSeatsAndBehinds ∈ TB := tb_in5 (i := 8) (by decide +kernel) rfl
theorem tw5_80 : Cond.instanceMethod yX11_danger ∈ TB := tb_in5 (i := 80) (by decide +kernel) rfl
theorem tw5_81 : Cond.selects RX11 yX11_danger yX11_danger ∈ TB := tb_in5 (i := 81) (by decide +kernel) rfl
theorem tw5_82 : Cond.code yX11_danger cX11_danger 6 (some .int) ∈ TB := tb_in5 (i := 82) rfl rfl
theorem tw5_84 : Cond.instanceMethod yX11_claque ∈ TB := tb_in5 (i := 84) (by decide +kernel) rfl
theorem tw5_85 : Cond.selects RX11 yX11_claque yX11_claque ∈ TB := tb_in5 (i := 85) (by decide +kernel) rfl
theorem tw5_86 : Cond.code yX11_claque cX11_claque 3 (some .int) ∈ TB := tb_in5 (i := 86) rfl rfl
theorem tw5_87 : Cond.methodLink RX11 290 yX0_goesTillOut ∈ TB := tb_in5 (i := 87) (by decide +kernel) rfl
theorem tw5_88 : Cond.instanceMethod yX0_goesTillOut ∈ TB := tb_in5 (i := 88) (by decide +kernel) rfl
theorem tw5_89 : Cond.selects RX0 yX0_goesTillOut yX0_goesTillOut ∈ TB := tb_in5 (i := 89) (by decide +kernel) rfl
theorem tw5_9 : Cond.code yX2_areSeatsAndBehinds cX2_areSeatsAndBehinds 3 (some .boolean) ∈ TB := tb_in5 (i := 9) rfl rfl
theorem tw5_90 : Cond.code yX0_goesTillOut cX0_goesTillOut 4 (some .int) ∈ TB := tb_in5 (i := 90) rfl rfl
theorem tw5_91 : Cond.methodLink RX0 126 yX5_hasExit ∈ TB := tb_in5 (i := 91) (by decide +kernel) rfl
theorem tw5_92 : Cond.methodLink RX0 129 yX0_isGoodExit ∈ TB := tb_in5 (i := 92) (by decide +kernel) rfl
theorem tw5_94 : Cond.instanceMethod yX11_lastly ∈ TB := tb_in5 (i := 94) (by decide +kernel) rfl
theorem tw5_95 : Cond.selects RX11 yX11_lastly yX11_lastly ∈ TB := tb_in5 (i := 95) (by decide +kernel) rfl
theorem tw5_96 : Cond.code yX11_lastly cX11_lastly 4 (some .int) ∈ TB := tb_in5 (i := 96) rfl rfl
theorem tw5_98 : Cond.instanceMethod yX11_screw ∈ TB := tb_in5 (i := 98) (by decide +kernel) rfl
theorem tw5_99 : Cond.selects RX11 yX11_screw yX11_screw ∈ TB := tb_in5 (i := 99) (by decide +kernel) rfl
theorem tw6_0 : Cond.fieldLink RX12 27 "MovingExitsModel" "faultPlace" "I" ∈ TB := tb_in6 (i := 0) (by decide +kernel) rfl
theorem tw6_1 : Cond.fieldLink RX12 31 "MovingExitsModel" "lines" "[I" ∈ TB := tb_in6 (i := 1) (by decide +kernel) rfl
theorem tw6_10 : Cond.fieldLink RX12 59 "MovingExitsModel" "flow" "[I" ∈ TB := tb_in6 (i := 10) (by decide +kernel) rfl
theorem tw6_100 : Cond.code yX12_isSlot cX12_isSlot 1 (some .boolean) ∈ TB := tb_in6 (i := 100) rfl rfl
theorem tw6_101 : Cond.constantLong RX12 77 (3) ∈ TB := tb_in6 (i := 101) (by decide +kernel) rfl
theorem tw6_102 : Cond.methodLink RX12 79 yX12_in ∈ TB := tb_in6 (i := 102) (by decide +kernel) rfl
theorem tw6_103 : Cond.static yX12_in ∈ TB := tb_in6 (i := 103) (by decide +kernel) rfl
theorem tw6_104 : Cond.code yX12_in cX12_in 6 (some .boolean) ∈ TB := tb_in6 (i := 104) rfl rfl
theorem tw6_106 : Cond.instanceMethod yX12_write ∈ TB := tb_in6 (i := 106) (by decide +kernel) rfl
theorem tw6_107 : Cond.selects RX12 yX12_write yX12_write ∈ TB := tb_in6 (i := 107) (by decide +kernel) rfl
theorem tw6_108 : Cond.code yX12_write cX12_write 5 (some .int) ∈ TB := tb_in6 (i := 108) rfl rfl
theorem tw6_109 : Cond.methodLink RX12 87 yX12_cut ∈ TB := tb_in6 (i := 109) (by decide +kernel) rfl
theorem tw6_11 : Cond.fieldLink RX12 62 "MovingExitsModel" "from" "[I" ∈ TB := tb_in6 (i := 11) (by decide +kernel) rfl
theorem tw6_110 : Cond.static yX12_cut ∈ TB := tb_in6 (i := 110) (by decide +kernel) rfl
theorem tw6_111 : Cond.code yX12_cut cX12_cut 3 (some .long) ∈ TB := tb_in6 (i := 111) rfl rfl
theorem tw6_113 : Cond.instanceMethod yX12_paste ∈ TB := tb_in6 (i := 113) (by decide +kernel) rfl
theorem tw6_114 : Cond.selects RX12 yX12_paste yX12_paste ∈ TB := tb_in6 (i := 114) (by decide +kernel) rfl
theorem tw6_115 : Cond.code yX12_paste cX12_paste 7 (some .int) ∈ TB := tb_in6 (i := 115) rfl rfl
theorem tw6_117 : Cond.instanceMethod yX12_feed ∈ TB := tb_in6 (i := 117) (by decide +kernel) rfl
theorem tw6_118 : Cond.selects RX12 yX12_feed yX12_feed ∈ TB := tb_in6 (i := 118) (by decide +kernel) rfl
theorem tw6_119 : Cond.code yX12_feed cX12_feed 6 (some .int) ∈ TB := tb_in6 (i := 119) rfl rfl
theorem tw6_12 : Cond.fieldLink RX12 65 "MovingExitsModel" "edge" "[I" ∈ TB := tb_in6 (i := 12) (by decide +kernel) rfl
theorem tw6_120 : Cond.methodLink RX12 94 yX12_four ∈ TB := tb_in6 (i := 120) (by decide +kernel) rfl
theorem tw6_122 : Cond.instanceMethod yX12_four ∈ TB := tb_in6 (i := 122) (by decide +kernel) rfl
theorem tw6_123 : Cond.code yX12_four cX12_four 3 none ∈ TB := tb_in6 (i := 123) rfl rfl
theorem tw6_125 : Cond.instanceMethod yX12_end ∈ TB := tb_in6 (i := 125) (by decide +kernel) rfl
theorem tw6_126 : Cond.selects RX12 yX12_end yX12_end ∈ TB := tb_in6 (i := 126) (by decide +kernel) rfl
theorem tw6_127 : Cond.code yX12_end cX12_end 2 (some .int) ∈ TB := tb_in6 (i := 127) rfl rfl
theorem tw6_129 : Cond.instanceMethod yX12_fault ∈ TB := tb_in6 (i := 129) (by decide +kernel) rfl
theorem tw6_13 : Cond.fieldLink RX12 68 "MovingExitsModel" "queue" "[I" ∈ TB := tb_in6 (i := 13) (by decide +kernel) rfl
theorem tw6_130 : Cond.selects RX12 yX12_fault yX12_fault ∈ TB := tb_in6 (i := 130) (by decide +kernel) rfl
theorem tw6_131 : Cond.code yX12_fault cX12_fault 2 (some .int) ∈ TB := tb_in6 (i := 131) rfl rfl
theorem tw6_133 : Cond.instanceMethod yX12_hall ∈ TB := tb_in6 (i := 133) (by decide +kernel) rfl
theorem tw6_134 : Cond.selects RX12 yX12_hall yX12_hall ∈ TB := tb_in6 (i := 134) (by decide +kernel) rfl
theorem tw6_135 : Cond.code yX12_hall cX12_hall 1 (some .int) ∈ TB := tb_in6 (i := 135) rfl rfl
theorem tw6_136 : Cond.methodLink RX12 203 yX12_clears ∈ TB := tb_in6 (i := 136) (by decide +kernel) rfl
theorem tw6_138 : Cond.instanceMethod yX12_clears ∈ TB := tb_in6 (i := 138) (by decide +kernel) rfl
theorem tw6_139 : Cond.code yX12_clears cX12_clears 2 none ∈ TB := tb_in6 (i := 139) rfl rfl
theorem tw6_14 : Cond.fieldLink RX12 326 "MovingExitsModel" "minutes" "I" ∈ TB := tb_in6 (i := 14) (by decide +kernel) rfl
theorem tw6_140 : Cond.methodLink RX12 206 yX12_begins ∈ TB := tb_in6 (i := 140) (by decide +kernel) rfl
theorem tw6_142 : Cond.instanceMethod yX12_begins ∈ TB := tb_in6 (i := 142) (by decide +kernel) rfl
theorem tw6_143 : Cond.code yX12_begins cX12_begins 1 none ∈ TB := tb_in6 (i := 143) rfl rfl
theorem tw6_144 : Cond.methodLink RX12 136 yX12_next ∈ TB := tb_in6 (i := 144) (by decide +kernel) rfl
theorem tw6_146 : Cond.instanceMethod yX12_next ∈ TB := tb_in6 (i := 146) (by decide +kernel) rfl
theorem tw6_147 : Cond.code yX12_next cX12_next 2 none ∈ TB := tb_in6 (i := 147) rfl rfl
theorem tw6_148 : Cond.methodLink RX12 101 yX12_isByte ∈ TB := tb_in6 (i := 148) (by decide +kernel) rfl
theorem tw6_15 : Cond.fieldLink RX12 323 "MovingExitsModel" "queued" "I" ∈ TB := tb_in6 (i := 15) (by decide +kernel) rfl
theorem tw6_150 : Cond.instanceMethod yX12_isByte ∈ TB := tb_in6 (i := 150) (by decide +kernel) rfl
theorem tw6_151 : Cond.code yX12_isByte cX12_isByte 4 (some .boolean) ∈ TB := tb_in6 (i := 151) rfl rfl
theorem tw6_152 : Cond.constantLong RX12 118 (-1) ∈ TB := tb_in6 (i := 152) (by decide +kernel) rfl
theorem tw6_153 : Cond.constantLong RX12 120 (27) ∈ TB := tb_in6 (i := 153) (by decide +kernel) rfl
theorem tw6_154 : Cond.constantLong RX12 122 (96) ∈ TB := tb_in6 (i := 154) (by decide +kernel) rfl
theorem tw6_155 : Cond.constant RX12 124 (100000) ∈ TB := tb_in6 (i := 155) (by decide +kernel) rfl
theorem tw6_156 : Cond.constant RX12 125 (1000000) ∈ TB := tb_in6 (i := 156) (by decide +kernel) rfl
theorem tw6_157 : Cond.methodLink RX12 184 yX12_isGood ∈ TB := tb_in6 (i := 157) (by decide +kernel) rfl
theorem tw6_159 : Cond.instanceMethod yX12_isGood ∈ TB := tb_in6 (i := 159) (by decide +kernel) rfl
theorem tw6_16 : Cond.fieldLink RX12 392 "MovingExitsModel" "askLeaves" "I" ∈ TB := tb_in6 (i := 16) (by decide +kernel) rfl
theorem tw6_160 : Cond.code yX12_isGood cX12_isGood 1 (some .boolean) ∈ TB := tb_in6 (i := 160) rfl rfl
theorem tw6_161 : Cond.constantLong RX12 209 (158529) ∈ TB := tb_in6 (i := 161) (by decide +kernel) rfl
theorem tw6_162 : Cond.methodLink RX12 145 yX12_asks ∈ TB := tb_in6 (i := 162) (by decide +kernel) rfl
theorem tw6_164 : Cond.instanceMethod yX12_asks ∈ TB := tb_in6 (i := 164) (by decide +kernel) rfl
theorem tw6_165 : Cond.code yX12_asks cX12_asks 3 none ∈ TB := tb_in6 (i := 165) rfl rfl
theorem tw6_166 : Cond.methodLink RX12 139 yX12_takes ∈ TB := tb_in6 (i := 166) (by decide +kernel) rfl
theorem tw6_168 : Cond.instanceMethod yX12_takes ∈ TB := tb_in6 (i := 168) (by decide +kernel) rfl
theorem tw6_169 : Cond.code yX12_takes cX12_takes 3 (some .boolean) ∈ TB := tb_in6 (i := 169) rfl rfl
theorem tw6_17 : Cond.fieldLink RX12 407 "MovingExitsModel" "blindBest" "I" ∈ TB := tb_in6 (i := 17) (by decide +kernel) rfl
theorem tw6_170 : Cond.methodLink RX12 132 yX12_is ∈ TB := tb_in6 (i := 170) (by decide +kernel) rfl
theorem tw6_172 : Cond.instanceMethod yX12_is ∈ TB := tb_in6 (i := 172) (by decide +kernel) rfl
theorem tw6_173 : Cond.code yX12_is cX12_is 3 (some .boolean) ∈ TB := tb_in6 (i := 173) rfl rfl
theorem tw6_174 : Cond.methodLink RX12 142 yX12_fails ∈ TB := tb_in6 (i := 174) (by decide +kernel) rfl
theorem tw6_176 : Cond.instanceMethod yX12_fails ∈ TB := tb_in6 (i := 176) (by decide +kernel) rfl
theorem tw6_177 : Cond.code yX12_fails cX12_fails 2 none ∈ TB := tb_in6 (i := 177) rfl rfl
theorem tw6_178 : Cond.constantLong RX12 211 (365869) ∈ TB := tb_in6 (i := 178) (by decide +kernel) rfl
theorem tw6_179 : Cond.methodLink RX12 172 yX12_number_ ∈ TB := tb_in6 (i := 179) (by decide +kernel) rfl
theorem tw6_18 : Cond.fieldLink RX12 419 "MovingExitsModel" "claqueActs" "I" ∈ TB := tb_in6 (i := 18) (by decide +kernel) rfl
theorem tw6_181 : Cond.instanceMethod yX12_number_ ∈ TB := tb_in6 (i := 181) (by decide +kernel) rfl
theorem tw6_182 : Cond.code yX12_number_ cX12_number_ 5 (some .int) ∈ TB := tb_in6 (i := 182) rfl rfl
theorem tw6_183 : Cond.methodLink RX12 149 yX12_number ∈ TB := tb_in6 (i := 183) (by decide +kernel) rfl
theorem tw6_185 : Cond.instanceMethod yX12_number ∈ TB := tb_in6 (i := 185) (by decide +kernel) rfl
theorem tw6_186 : Cond.code yX12_number cX12_number 4 (some .int) ∈ TB := tb_in6 (i := 186) rfl rfl
theorem tw6_187 : Cond.constantLong RX12 213 (10197082) ∈ TB := tb_in6 (i := 187) (by decide +kernel) rfl
theorem tw6_188 : Cond.constantLong RX12 215 (8798) ∈ TB := tb_in6 (i := 188) (by decide +kernel) rfl
theorem tw6_189 : Cond.methodLink RX12 217 yX12_line ∈ TB := tb_in6 (i := 189) (by decide +kernel) rfl
theorem tw6_19 : Cond.fieldLink RX12 422 "MovingExitsModel" "claquePlace" "I" ∈ TB := tb_in6 (i := 19) (by decide +kernel) rfl
theorem tw6_191 : Cond.instanceMethod yX12_line ∈ TB := tb_in6 (i := 191) (by decide +kernel) rfl
theorem tw6_192 : Cond.code yX12_line cX12_line 3 none ∈ TB := tb_in6 (i := 192) rfl rfl
theorem tw6_193 : Cond.constantLong RX12 188 (8740067) ∈ TB := tb_in6 (i := 193) (by decide +kernel) rfl
theorem tw6_194 : Cond.constantLong RX12 190 (116174) ∈ TB := tb_in6 (i := 194) (by decide +kernel) rfl
theorem tw6_195 : Cond.methodLink RX12 156 yX12_hasRead ∈ TB := tb_in6 (i := 195) (by decide +kernel) rfl
theorem tw6_197 : Cond.instanceMethod yX12_hasRead ∈ TB := tb_in6 (i := 197) (by decide +kernel) rfl
theorem tw6_198 : Cond.code yX12_hasRead cX12_hasRead 2 (some .int) ∈ TB := tb_in6 (i := 198) rfl rfl
theorem tw6_199 : Cond.methodLink RX12 192 yX12_placeLine ∈ TB := tb_in6 (i := 199) (by decide +kernel) rfl
theorem tw6_2 : Cond.fieldLink RX12 34 "MovingExitsModel" "has" "[I" ∈ TB := tb_in6 (i := 2) (by decide +kernel) rfl
theorem tw6_20 : Cond.fieldLink RX12 71 "MovingExitsModel" "comes" "[I" ∈ TB := tb_in6 (i := 20) (by decide +kernel) rfl
theorem tw6_201 : Cond.instanceMethod yX12_placeLine ∈ TB := tb_in6 (i := 201) (by decide +kernel) rfl
theorem tw6_202 : Cond.code yX12_placeLine cX12_placeLine 3 none ∈ TB := tb_in6 (i := 202) rfl rfl
theorem tw6_203 : Cond.methodLink RX12 160 yX12_rowHere ∈ TB := tb_in6 (i := 203) (by decide +kernel) rfl
theorem tw6_205 : Cond.instanceMethod yX12_rowHere ∈ TB := tb_in6 (i := 205) (by decide +kernel) rfl
theorem tw6_206 : Cond.code yX12_rowHere cX12_rowHere 1 (some .int) ∈ TB := tb_in6 (i := 206) rfl rfl
theorem tw6_207 : Cond.methodLink RX12 164 yX12_placeAt ∈ TB := tb_in6 (i := 207) (by decide +kernel) rfl
theorem tw6_209 : Cond.instanceMethod yX12_placeAt ∈ TB := tb_in6 (i := 209) (by decide +kernel) rfl
theorem tw6_210 : Cond.code yX12_placeAt cX12_placeAt 4 (some .int) ∈ TB := tb_in6 (i := 210) rfl rfl
theorem tw6_211 : Cond.methodLink RX12 167 yX12_seatHere ∈ TB := tb_in6 (i := 211) (by decide +kernel) rfl
theorem tw6_213 : Cond.instanceMethod yX12_seatHere ∈ TB := tb_in6 (i := 213) (by decide +kernel) rfl
theorem tw6_214 : Cond.code yX12_seatHere cX12_seatHere 1 (some .int) ∈ TB := tb_in6 (i := 214) rfl rfl
theorem tw6_215 : Cond.constantLong RX12 170 (555) ∈ TB := tb_in6 (i := 215) (by decide +kernel) rfl
theorem tw6_216 : Cond.constantLong RX12 175 (399641) ∈ TB := tb_in6 (i := 216) (by decide +kernel) rfl
theorem tw6_217 : Cond.methodLink RX12 195 yX12_exitLine ∈ TB := tb_in6 (i := 217) (by decide +kernel) rfl
theorem tw6_219 : Cond.instanceMethod yX12_exitLine ∈ TB := tb_in6 (i := 219) (by decide +kernel) rfl
theorem tw6_220 : Cond.code yX12_exitLine cX12_exitLine 2 none ∈ TB := tb_in6 (i := 220) rfl rfl
theorem tw6_221 : Cond.methodLink RX12 177 yX12_hasExit ∈ TB := tb_in6 (i := 221) (by decide +kernel) rfl
theorem tw6_223 : Cond.instanceMethod yX12_hasExit ∈ TB := tb_in6 (i := 223) (by decide +kernel) rfl
theorem tw6_224 : Cond.code yX12_hasExit cX12_hasExit 3 (some .boolean) ∈ TB := tb_in6 (i := 224) rfl rfl
theorem tw6_225 : Cond.constantLong RX12 180 (459383) ∈ TB := tb_in6 (i := 225) (by decide +kernel) rfl
theorem tw6_226 : Cond.constantLong RX12 182 (223459) ∈ TB := tb_in6 (i := 226) (by decide +kernel) rfl
theorem tw6_227 : Cond.constantLong RX12 198 (381097) ∈ TB := tb_in6 (i := 227) (by decide +kernel) rfl
theorem tw6_228 : Cond.methodLink RX12 200 yX12_sitsLine ∈ TB := tb_in6 (i := 228) (by decide +kernel) rfl
theorem tw6_230 : Cond.instanceMethod yX12_sitsLine ∈ TB := tb_in6 (i := 230) (by decide +kernel) rfl
theorem tw6_231 : Cond.code yX12_sitsLine cX12_sitsLine 3 none ∈ TB := tb_in6 (i := 231) rfl rfl
theorem tw6_232 : Cond.methodLink RX12 220 yX12_ends ∈ TB := tb_in6 (i := 232) (by decide +kernel) rfl
theorem tw6_234 : Cond.instanceMethod yX12_ends ∈ TB := tb_in6 (i := 234) (by decide +kernel) rfl
theorem tw6_235 : Cond.code yX12_ends cX12_ends 1 none ∈ TB := tb_in6 (i := 235) rfl rfl
theorem tw6_236 : Cond.methodLink RX12 223 yX12_isOver ∈ TB := tb_in6 (i := 236) (by decide +kernel) rfl
theorem tw6_238 : Cond.instanceMethod yX12_isOver ∈ TB := tb_in6 (i := 238) (by decide +kernel) rfl
theorem tw6_239 : Cond.code yX12_isOver cX12_isOver 1 none ∈ TB := tb_in6 (i := 239) rfl rfl
theorem tw6_3 : Cond.fieldLink RX12 37 "MovingExitsModel" "spot" "[I" ∈ TB := tb_in6 (i := 3) (by decide +kernel) rfl
theorem tw6_4 : Cond.fieldLink RX12 40 "MovingExitsModel" "exit" "[I" ∈ TB := tb_in6 (i := 4) (by decide +kernel) rfl
theorem tw6_5 : Cond.fieldLink RX12 43 "MovingExitsModel" "isSat" "[Z" ∈ TB := tb_in6 (i := 5) (by decide +kernel) rfl
theorem tw6_6 : Cond.fieldLink RX12 47 "MovingExitsModel" "change" "[I" ∈ TB := tb_in6 (i := 6) (by decide +kernel) rfl
theorem tw6_7 : Cond.fieldLink RX12 50 "MovingExitsModel" "isKept" "[Z" ∈ TB := tb_in6 (i := 7) (by decide +kernel) rfl
theorem tw6_8 : Cond.fieldLink RX12 53 "MovingExitsModel" "at0" "[I" ∈ TB := tb_in6 (i := 8) (by decide +kernel) rfl
theorem tw6_9 : Cond.fieldLink RX12 56 "MovingExitsModel" "doors" "[I" ∈ TB := tb_in6 (i := 9) (by decide +kernel) rfl
theorem tw6_95 : Cond.instanceMethod yX12_row ∈ TB := tb_in6 (i := 95) (by decide +kernel) rfl
theorem tw6_96 : Cond.selects RX12 yX12_row yX12_row ∈ TB := tb_in6 (i := 96) (by decide +kernel) rfl
theorem tw6_97 : Cond.code yX12_row cX12_row 5 (some .int) ∈ TB := tb_in6 (i := 97) rfl rfl
theorem tw6_98 : Cond.methodLink RX12 83 yX12_isSlot ∈ TB := tb_in6 (i := 98) (by decide +kernel) rfl
theorem tw6_99 : Cond.static yX12_isSlot ∈ TB := tb_in6 (i := 99) (by decide +kernel) rfl
theorem tw7_0 : Cond.methodLink RX12 226 yX12_copyHall ∈ TB := tb_in7 (i := 0) (by decide +kernel) rfl
theorem tw7_10 : Cond.code yX12_place cX12_place 3 (some .int) ∈ TB := tb_in7 (i := 10) rfl rfl
theorem tw7_100 : Cond.methodLink RX12 291 yX12_doublesOf ∈ TB := tb_in7 (i := 100) (by decide +kernel) rfl
theorem tw7_102 : Cond.instanceMethod yX12_doublesOf ∈ TB := tb_in7 (i := 102) (by decide +kernel) rfl
theorem tw7_103 : Cond.code yX12_doublesOf cX12_doublesOf 4 (some .int) ∈ TB := tb_in7 (i := 103) rfl rfl
theorem tw7_104 : Cond.methodLink RX12 288 yX12_sizeOf ∈ TB := tb_in7 (i := 104) (by decide +kernel) rfl
theorem tw7_105 : Cond.static yX12_sizeOf ∈ TB := tb_in7 (i := 105) (by decide +kernel) rfl
theorem tw7_106 : Cond.code yX12_sizeOf cX12_sizeOf 3 (some .int) ∈ TB := tb_in7 (i := 106) rfl rfl
theorem tw7_108 : Cond.instanceMethod yX12_slip ∈ TB := tb_in7 (i := 108) (by decide +kernel) rfl
theorem tw7_109 : Cond.selects RX12 yX12_slip yX12_slip ∈ TB := tb_in7 (i := 109) (by decide +kernel) rfl
theorem tw7_11 : Cond.methodLink RX12 247 yX12_isPlace ∈ TB := tb_in7 (i := 11) (by decide +kernel) rfl
theorem tw7_110 : Cond.code yX12_slip cX12_slip 2 (some .int) ∈ TB := tb_in7 (i := 110) rfl rfl
theorem tw7_112 : Cond.instanceMethod yX12_round ∈ TB := tb_in7 (i := 112) (by decide +kernel) rfl
theorem tw7_113 : Cond.selects RX12 yX12_round yX12_round ∈ TB := tb_in7 (i := 113) (by decide +kernel) rfl
theorem tw7_114 : Cond.code yX12_round cX12_round 2 (some .int) ∈ TB := tb_in7 (i := 114) rfl rfl
theorem tw7_115 : Cond.methodLink RX12 294 yX12_areAlike ∈ TB := tb_in7 (i := 115) (by decide +kernel) rfl
theorem tw7_117 : Cond.instanceMethod yX12_areAlike ∈ TB := tb_in7 (i := 117) (by decide +kernel) rfl
theorem tw7_118 : Cond.code yX12_areAlike cX12_areAlike 4 (some .boolean) ∈ TB := tb_in7 (i := 118) rfl rfl
theorem tw7_120 : Cond.instanceMethod yX12_again ∈ TB := tb_in7 (i := 120) (by decide +kernel) rfl
theorem tw7_121 : Cond.selects RX12 yX12_again yX12_again ∈ TB := tb_in7 (i := 121) (by decide +kernel) rfl
theorem tw7_122 : Cond.code yX12_again cX12_again 3 (some .int) ∈ TB := tb_in7 (i := 122) rfl rfl
theorem tw7_124 : Cond.instanceMethod yX12_next_ ∈ TB := tb_in7 (i := 124) (by decide +kernel) rfl
theorem tw7_125 : Cond.selects RX12 yX12_next_ yX12_next_ ∈ TB := tb_in7 (i := 125) (by decide +kernel) rfl
theorem tw7_126 : Cond.code yX12_next_ cX12_next_ 5 (some .int) ∈ TB := tb_in7 (i := 126) rfl rfl
theorem tw7_128 : Cond.instanceMethod yX12_sees ∈ TB := tb_in7 (i := 128) (by decide +kernel) rfl
theorem tw7_129 : Cond.selects RX12 yX12_sees yX12_sees ∈ TB := tb_in7 (i := 129) (by decide +kernel) rfl
theorem tw7_13 : Cond.instanceMethod yX12_isPlace ∈ TB := tb_in7 (i := 13) (by decide +kernel) rfl
theorem tw7_130 : Cond.code yX12_sees cX12_sees 4 (some .int) ∈ TB := tb_in7 (i := 130) rfl rfl
theorem tw7_132 : Cond.instanceMethod yX12_far ∈ TB := tb_in7 (i := 132) (by decide +kernel) rfl
theorem tw7_133 : Cond.selects RX12 yX12_far yX12_far ∈ TB := tb_in7 (i := 133) (by decide +kernel) rfl
theorem tw7_134 : Cond.code yX12_far cX12_far 4 (some .int) ∈ TB := tb_in7 (i := 134) rfl rfl
theorem tw7_135 : Cond.methodLink RX12 311 yX12_farOf ∈ TB := tb_in7 (i := 135) (by decide +kernel) rfl
theorem tw7_137 : Cond.instanceMethod yX12_farOf ∈ TB := tb_in7 (i := 137) (by decide +kernel) rfl
theorem tw7_138 : Cond.code yX12_farOf cX12_farOf 5 (some .int) ∈ TB := tb_in7 (i := 138) rfl rfl
theorem tw7_139 : Cond.methodLink RX12 307 yX12_nearest ∈ TB := tb_in7 (i := 139) (by decide +kernel) rfl
theorem tw7_14 : Cond.code yX12_isPlace cX12_isPlace 3 (some .boolean) ∈ TB := tb_in7 (i := 14) rfl rfl
theorem tw7_141 : Cond.instanceMethod yX12_nearest ∈ TB := tb_in7 (i := 141) (by decide +kernel) rfl
theorem tw7_142 : Cond.code yX12_nearest cX12_nearest 7 (some .int) ∈ TB := tb_in7 (i := 142) rfl rfl
theorem tw7_143 : Cond.methodLink RX12 300 yX12_isGoodExit ∈ TB := tb_in7 (i := 143) (by decide +kernel) rfl
theorem tw7_145 : Cond.instanceMethod yX12_isGoodExit ∈ TB := tb_in7 (i := 145) (by decide +kernel) rfl
theorem tw7_146 : Cond.code yX12_isGoodExit cX12_isGoodExit 3 (some .boolean) ∈ TB := tb_in7 (i := 146) rfl rfl
theorem tw7_147 : Cond.methodLink RX12 270 yX12_isGoodPlace ∈ TB := tb_in7 (i := 147) (by decide +kernel) rfl
theorem tw7_149 : Cond.instanceMethod yX12_isGoodPlace ∈ TB := tb_in7 (i := 149) (by decide +kernel) rfl
theorem tw7_15 : Cond.methodLink RX12 244 yX12_of ∈ TB := tb_in7 (i := 15) (by decide +kernel) rfl
theorem tw7_150 : Cond.code yX12_isGoodPlace cX12_isGoodPlace 2 (some .boolean) ∈ TB := tb_in7 (i := 150) rfl rfl
theorem tw7_151 : Cond.methodLink RX12 303 yX12_stepsTo ∈ TB := tb_in7 (i := 151) (by decide +kernel) rfl
theorem tw7_153 : Cond.instanceMethod yX12_stepsTo ∈ TB := tb_in7 (i := 153) (by decide +kernel) rfl
theorem tw7_154 : Cond.code yX12_stepsTo cX12_stepsTo 4 (some .int) ∈ TB := tb_in7 (i := 154) rfl rfl
theorem tw7_155 : Cond.methodLink RX12 297 yX12_between ∈ TB := tb_in7 (i := 155) (by decide +kernel) rfl
theorem tw7_156 : Cond.static yX12_between ∈ TB := tb_in7 (i := 156) (by decide +kernel) rfl
theorem tw7_157 : Cond.code yX12_between cX12_between 2 (some .int) ∈ TB := tb_in7 (i := 157) rfl rfl
theorem tw7_159 : Cond.instanceMethod yX12_by ∈ TB := tb_in7 (i := 159) (by decide +kernel) rfl
theorem tw7_160 : Cond.selects RX12 yX12_by yX12_by ∈ TB := tb_in7 (i := 160) (by decide +kernel) rfl
theorem tw7_161 : Cond.code yX12_by cX12_by 4 (some .int) ∈ TB := tb_in7 (i := 161) rfl rfl
theorem tw7_163 : Cond.instanceMethod yX12_falls ∈ TB := tb_in7 (i := 163) (by decide +kernel) rfl
theorem tw7_164 : Cond.selects RX12 yX12_falls yX12_falls ∈ TB := tb_in7 (i := 164) (by decide +kernel) rfl
theorem tw7_165 : Cond.code yX12_falls cX12_falls 4 (some .int) ∈ TB := tb_in7 (i := 165) rfl rfl
theorem tw7_166 : Cond.methodLink RX12 314 yX12_fallsOf ∈ TB := tb_in7 (i := 166) (by decide +kernel) rfl
theorem tw7_168 : Cond.instanceMethod yX12_fallsOf ∈ TB := tb_in7 (i := 168) (by decide +kernel) rfl
theorem tw7_169 : Cond.code yX12_fallsOf cX12_fallsOf 5 (some .int) ∈ TB := tb_in7 (i := 169) rfl rfl
theorem tw7_17 : Cond.instanceMethod yX12_of ∈ TB := tb_in7 (i := 17) (by decide +kernel) rfl
theorem tw7_171 : Cond.instanceMethod yX12_best ∈ TB := tb_in7 (i := 171) (by decide +kernel) rfl
theorem tw7_172 : Cond.selects RX12 yX12_best yX12_best ∈ TB := tb_in7 (i := 172) (by decide +kernel) rfl
theorem tw7_173 : Cond.code yX12_best cX12_best 7 (some .int) ∈ TB := tb_in7 (i := 173) rfl rfl
theorem tw7_175 : Cond.instanceMethod yX12_worst ∈ TB := tb_in7 (i := 175) (by decide +kernel) rfl
theorem tw7_176 : Cond.selects RX12 yX12_worst yX12_worst ∈ TB := tb_in7 (i := 176) (by decide +kernel) rfl
theorem tw7_177 : Cond.code yX12_worst cX12_worst 2 (some .int) ∈ TB := tb_in7 (i := 177) rfl rfl
theorem tw7_178 : Cond.methodLink RX12 317 yX12_worstOf ∈ TB := tb_in7 (i := 178) (by decide +kernel) rfl
theorem tw7_18 : Cond.code yX12_of cX12_of 3 (some .int) ∈ TB := tb_in7 (i := 18) rfl rfl
theorem tw7_180 : Cond.instanceMethod yX12_worstOf ∈ TB := tb_in7 (i := 180) (by decide +kernel) rfl
theorem tw7_181 : Cond.code yX12_worstOf cX12_worstOf 5 (some .int) ∈ TB := tb_in7 (i := 181) rfl rfl
theorem tw7_183 : Cond.instanceMethod yX12_kept ∈ TB := tb_in7 (i := 183) (by decide +kernel) rfl
theorem tw7_184 : Cond.selects RX12 yX12_kept yX12_kept ∈ TB := tb_in7 (i := 184) (by decide +kernel) rfl
theorem tw7_185 : Cond.code yX12_kept cX12_kept 2 (some .int) ∈ TB := tb_in7 (i := 185) rfl rfl
theorem tw7_186 : Cond.methodLink RX12 320 yX12_isLawful ∈ TB := tb_in7 (i := 186) (by decide +kernel) rfl
theorem tw7_188 : Cond.instanceMethod yX12_isLawful ∈ TB := tb_in7 (i := 188) (by decide +kernel) rfl
theorem tw7_189 : Cond.code yX12_isLawful cX12_isLawful 2 (some .boolean) ∈ TB := tb_in7 (i := 189) rfl rfl
theorem tw7_191 : Cond.instanceMethod yX12_breaks ∈ TB := tb_in7 (i := 191) (by decide +kernel) rfl
theorem tw7_192 : Cond.selects RX12 yX12_breaks yX12_breaks ∈ TB := tb_in7 (i := 192) (by decide +kernel) rfl
theorem tw7_193 : Cond.code yX12_breaks cX12_breaks 3 (some .int) ∈ TB := tb_in7 (i := 193) rfl rfl
theorem tw7_195 : Cond.instanceMethod yX12_screws ∈ TB := tb_in7 (i := 195) (by decide +kernel) rfl
theorem tw7_196 : Cond.selects RX12 yX12_screws yX12_screws ∈ TB := tb_in7 (i := 196) (by decide +kernel) rfl
theorem tw7_197 : Cond.code yX12_screws cX12_screws 3 (some .int) ∈ TB := tb_in7 (i := 197) rfl rfl
theorem tw7_199 : Cond.instanceMethod yX12_lawful ∈ TB := tb_in7 (i := 199) (by decide +kernel) rfl
theorem tw7_2 : Cond.instanceMethod yX12_copyHall ∈ TB := tb_in7 (i := 2) (by decide +kernel) rfl
theorem tw7_20 : Cond.instanceMethod yX12_exit ∈ TB := tb_in7 (i := 20) (by decide +kernel) rfl
theorem tw7_200 : Cond.selects RX12 yX12_lawful yX12_lawful ∈ TB := tb_in7 (i := 200) (by decide +kernel) rfl
theorem tw7_201 : Cond.code yX12_lawful cX12_lawful 3 (some .int) ∈ TB := tb_in7 (i := 201) rfl rfl
theorem tw7_203 : Cond.instanceMethod yX12_out ∈ TB := tb_in7 (i := 203) (by decide +kernel) rfl
theorem tw7_204 : Cond.selects RX12 yX12_out yX12_out ∈ TB := tb_in7 (i := 204) (by decide +kernel) rfl
theorem tw7_205 : Cond.code yX12_out cX12_out 3 (some .int) ∈ TB := tb_in7 (i := 205) rfl rfl
theorem tw7_206 : Cond.constantLong RX12 349 (20) ∈ TB := tb_in7 (i := 206) (by decide +kernel) rfl
theorem tw7_207 : Cond.methodLink RX12 351 yX12_laysDoors ∈ TB := tb_in7 (i := 207) (by decide +kernel) rfl
theorem tw7_209 : Cond.instanceMethod yX12_laysDoors ∈ TB := tb_in7 (i := 209) (by decide +kernel) rfl
theorem tw7_21 : Cond.selects RX12 yX12_exit yX12_exit ∈ TB := tb_in7 (i := 21) (by decide +kernel) rfl
theorem tw7_210 : Cond.code yX12_laysDoors cX12_laysDoors 5 none ∈ TB := tb_in7 (i := 210) rfl rfl
theorem tw7_211 : Cond.methodLink RX12 354 yX12_outsOf ∈ TB := tb_in7 (i := 211) (by decide +kernel) rfl
theorem tw7_213 : Cond.instanceMethod yX12_outsOf ∈ TB := tb_in7 (i := 213) (by decide +kernel) rfl
theorem tw7_214 : Cond.code yX12_outsOf cX12_outsOf 5 (some .int) ∈ TB := tb_in7 (i := 214) rfl rfl
theorem tw7_215 : Cond.methodLink RX12 343 yX12_seeks ∈ TB := tb_in7 (i := 215) (by decide +kernel) rfl
theorem tw7_217 : Cond.instanceMethod yX12_seeks ∈ TB := tb_in7 (i := 217) (by decide +kernel) rfl
theorem tw7_218 : Cond.code yX12_seeks cX12_seeks 9 (some .int) ∈ TB := tb_in7 (i := 218) rfl rfl
theorem tw7_219 : Cond.methodLink RX12 329 yX12_node ∈ TB := tb_in7 (i := 219) (by decide +kernel) rfl
theorem tw7_22 : Cond.code yX12_exit cX12_exit 3 (some .int) ∈ TB := tb_in7 (i := 22) rfl rfl
theorem tw7_220 : Cond.static yX12_node ∈ TB := tb_in7 (i := 220) (by decide +kernel) rfl
theorem tw7_221 : Cond.code yX12_node cX12_node 3 (some .int) ∈ TB := tb_in7 (i := 221) rfl rfl
theorem tw7_222 : Cond.methodLink RX12 333 yX12_visits ∈ TB := tb_in7 (i := 222) (by decide +kernel) rfl
theorem tw7_224 : Cond.instanceMethod yX12_visits ∈ TB := tb_in7 (i := 224) (by decide +kernel) rfl
theorem tw7_225 : Cond.code yX12_visits cX12_visits 4 none ∈ TB := tb_in7 (i := 225) rfl rfl
theorem tw7_226 : Cond.methodLink RX12 337 yX12_holds ∈ TB := tb_in7 (i := 226) (by decide +kernel) rfl
theorem tw7_228 : Cond.instanceMethod yX12_holds ∈ TB := tb_in7 (i := 228) (by decide +kernel) rfl
theorem tw7_229 : Cond.code yX12_holds cX12_holds 2 (some .int) ∈ TB := tb_in7 (i := 229) rfl rfl
theorem tw7_23 : Cond.methodLink RX12 250 yX12_isExit ∈ TB := tb_in7 (i := 23) (by decide +kernel) rfl
theorem tw7_230 : Cond.methodLink RX12 340 yX12_beside ∈ TB := tb_in7 (i := 230) (by decide +kernel) rfl
theorem tw7_232 : Cond.instanceMethod yX12_beside ∈ TB := tb_in7 (i := 232) (by decide +kernel) rfl
theorem tw7_233 : Cond.code yX12_beside cX12_beside 5 (some .int) ∈ TB := tb_in7 (i := 233) rfl rfl
theorem tw7_234 : Cond.methodLink RX12 346 yX12_goesOut ∈ TB := tb_in7 (i := 234) (by decide +kernel) rfl
theorem tw7_236 : Cond.instanceMethod yX12_goesOut ∈ TB := tb_in7 (i := 236) (by decide +kernel) rfl
theorem tw7_237 : Cond.code yX12_goesOut cX12_goesOut 4 none ∈ TB := tb_in7 (i := 237) rfl rfl
theorem tw7_239 : Cond.instanceMethod yX12_soonest ∈ TB := tb_in7 (i := 239) (by decide +kernel) rfl
theorem tw7_25 : Cond.instanceMethod yX12_isExit ∈ TB := tb_in7 (i := 25) (by decide +kernel) rfl
theorem tw7_26 : Cond.code yX12_isExit cX12_isExit 3 (some .boolean) ∈ TB := tb_in7 (i := 26) rfl rfl
theorem tw7_28 : Cond.instanceMethod yX12_sits ∈ TB := tb_in7 (i := 28) (by decide +kernel) rfl
theorem tw7_29 : Cond.selects RX12 yX12_sits yX12_sits ∈ TB := tb_in7 (i := 29) (by decide +kernel) rfl
theorem tw7_3 : Cond.code yX12_copyHall cX12_copyHall 4 none ∈ TB := tb_in7 (i := 3) rfl rfl
theorem tw7_30 : Cond.code yX12_sits cX12_sits 3 (some .int) ∈ TB := tb_in7 (i := 30) rfl rfl
theorem tw7_31 : Cond.methodLink RX12 253 yX12_isSeat ∈ TB := tb_in7 (i := 31) (by decide +kernel) rfl
theorem tw7_33 : Cond.instanceMethod yX12_isSeat ∈ TB := tb_in7 (i := 33) (by decide +kernel) rfl
theorem tw7_34 : Cond.code yX12_isSeat cX12_isSeat 5 (some .boolean) ∈ TB := tb_in7 (i := 34) rfl rfl
theorem tw7_35 : Cond.methodLink RX12 234 yX12_isRow ∈ TB := tb_in7 (i := 35) (by decide +kernel) rfl
theorem tw7_37 : Cond.instanceMethod yX12_isRow ∈ TB := tb_in7 (i := 37) (by decide +kernel) rfl
theorem tw7_38 : Cond.code yX12_isRow cX12_isRow 3 (some .boolean) ∈ TB := tb_in7 (i := 38) rfl rfl
theorem tw7_4 : Cond.methodLink RX12 230 yX12_copyRow ∈ TB := tb_in7 (i := 4) (by decide +kernel) rfl
theorem tw7_40 : Cond.instanceMethod yX12_at ∈ TB := tb_in7 (i := 40) (by decide +kernel) rfl
theorem tw7_41 : Cond.selects RX12 yX12_at yX12_at ∈ TB := tb_in7 (i := 41) (by decide +kernel) rfl
theorem tw7_42 : Cond.code yX12_at cX12_at 3 (some .int) ∈ TB := tb_in7 (i := 42) rfl rfl
theorem tw7_43 : Cond.methodLink RX12 273 yX12_isAct ∈ TB := tb_in7 (i := 43) (by decide +kernel) rfl
theorem tw7_45 : Cond.instanceMethod yX12_isAct ∈ TB := tb_in7 (i := 45) (by decide +kernel) rfl
theorem tw7_46 : Cond.code yX12_isAct cX12_isAct 2 (some .boolean) ∈ TB := tb_in7 (i := 46) rfl rfl
theorem tw7_47 : Cond.methodLink RX12 237 yX12_isHall ∈ TB := tb_in7 (i := 47) (by decide +kernel) rfl
theorem tw7_49 : Cond.instanceMethod yX12_isHall ∈ TB := tb_in7 (i := 49) (by decide +kernel) rfl
theorem tw7_5 : Cond.static yX12_copyRow ∈ TB := tb_in7 (i := 5) (by decide +kernel) rfl
theorem tw7_50 : Cond.code yX12_isHall cX12_isHall 1 (some .boolean) ∈ TB := tb_in7 (i := 50) rfl rfl
theorem tw7_51 : Cond.constantLong RX12 240 (59) ∈ TB := tb_in7 (i := 51) (by decide +kernel) rfl
theorem tw7_52 : Cond.methodLink RX12 276 yX12_lays ∈ TB := tb_in7 (i := 52) (by decide +kernel) rfl
theorem tw7_54 : Cond.instanceMethod yX12_lays ∈ TB := tb_in7 (i := 54) (by decide +kernel) rfl
theorem tw7_55 : Cond.code yX12_lays cX12_lays 3 none ∈ TB := tb_in7 (i := 55) rfl rfl
theorem tw7_56 : Cond.methodLink RX12 264 yX12_goesTo ∈ TB := tb_in7 (i := 56) (by decide +kernel) rfl
theorem tw7_58 : Cond.instanceMethod yX12_goesTo ∈ TB := tb_in7 (i := 58) (by decide +kernel) rfl
theorem tw7_59 : Cond.code yX12_goesTo cX12_goesTo 6 (some .int) ∈ TB := tb_in7 (i := 59) rfl rfl
theorem tw7_6 : Cond.code yX12_copyRow cX12_copyRow 5 none ∈ TB := tb_in7 (i := 6) rfl rfl
theorem tw7_60 : Cond.methodLink RX12 257 yX12_stays ∈ TB := tb_in7 (i := 60) (by decide +kernel) rfl
theorem tw7_62 : Cond.instanceMethod yX12_stays ∈ TB := tb_in7 (i := 62) (by decide +kernel) rfl
theorem tw7_63 : Cond.code yX12_stays cX12_stays 3 (some .boolean) ∈ TB := tb_in7 (i := 63) rfl rfl
theorem tw7_64 : Cond.methodLink RX12 261 yX12_isStayed ∈ TB := tb_in7 (i := 64) (by decide +kernel) rfl
theorem tw7_66 : Cond.instanceMethod yX12_isStayed ∈ TB := tb_in7 (i := 66) (by decide +kernel) rfl
theorem tw7_67 : Cond.code yX12_isStayed cX12_isStayed 4 (some .boolean) ∈ TB := tb_in7 (i := 67) rfl rfl
theorem tw7_68 : Cond.methodLink RX12 267 yX12_placeOf ∈ TB := tb_in7 (i := 68) (by decide +kernel) rfl
theorem tw7_70 : Cond.instanceMethod yX12_placeOf ∈ TB := tb_in7 (i := 70) (by decide +kernel) rfl
theorem tw7_71 : Cond.code yX12_placeOf cX12_placeOf 3 (some .int) ∈ TB := tb_in7 (i := 71) rfl rfl
theorem tw7_73 : Cond.instanceMethod yX12_who ∈ TB := tb_in7 (i := 73) (by decide +kernel) rfl
theorem tw7_74 : Cond.selects RX12 yX12_who yX12_who ∈ TB := tb_in7 (i := 74) (by decide +kernel) rfl
theorem tw7_75 : Cond.code yX12_who cX12_who 3 (some .int) ∈ TB := tb_in7 (i := 75) rfl rfl
theorem tw7_76 : Cond.methodLink RX12 279 yX12_whoOf ∈ TB := tb_in7 (i := 76) (by decide +kernel) rfl
theorem tw7_78 : Cond.instanceMethod yX12_whoOf ∈ TB := tb_in7 (i := 78) (by decide +kernel) rfl
theorem tw7_79 : Cond.code yX12_whoOf cX12_whoOf 5 (some .int) ∈ TB := tb_in7 (i := 79) rfl rfl
theorem tw7_8 : Cond.instanceMethod yX12_place ∈ TB := tb_in7 (i := 8) (by decide +kernel) rfl
theorem tw7_81 : Cond.instanceMethod yX12_behind ∈ TB := tb_in7 (i := 81) (by decide +kernel) rfl
theorem tw7_82 : Cond.selects RX12 yX12_behind yX12_behind ∈ TB := tb_in7 (i := 82) (by decide +kernel) rfl
theorem tw7_83 : Cond.code yX12_behind cX12_behind 3 (some .int) ∈ TB := tb_in7 (i := 83) rfl rfl
theorem tw7_84 : Cond.methodLink RX12 282 yX12_behindOf ∈ TB := tb_in7 (i := 84) (by decide +kernel) rfl
theorem tw7_86 : Cond.instanceMethod yX12_behindOf ∈ TB := tb_in7 (i := 86) (by decide +kernel) rfl
theorem tw7_87 : Cond.code yX12_behindOf cX12_behindOf 3 (some .int) ∈ TB := tb_in7 (i := 87) rfl rfl
theorem tw7_89 : Cond.instanceMethod yX12_leads ∈ TB := tb_in7 (i := 89) (by decide +kernel) rfl
theorem tw7_9 : Cond.selects RX12 yX12_place yX12_place ∈ TB := tb_in7 (i := 9) (by decide +kernel) rfl
theorem tw7_90 : Cond.selects RX12 yX12_leads yX12_leads ∈ TB := tb_in7 (i := 90) (by decide +kernel) rfl
theorem tw7_91 : Cond.code yX12_leads cX12_leads 5 (some .int) ∈ TB := tb_in7 (i := 91) rfl rfl
theorem tw7_92 : Cond.methodLink RX12 285 yX12_isBehind ∈ TB := tb_in7 (i := 92) (by decide +kernel) rfl
theorem tw7_93 : Cond.static yX12_isBehind ∈ TB := tb_in7 (i := 93) (by decide +kernel) rfl
theorem tw7_94 : Cond.code yX12_isBehind cX12_isBehind 2 (some .boolean) ∈ TB := tb_in7 (i := 94) rfl rfl
theorem tw7_95 : Cond.constantLong RX12 242 (4) ∈ TB := tb_in7 (i := 95) (by decide +kernel) rfl
theorem tw7_97 : Cond.instanceMethod yX12_doubles ∈ TB := tb_in7 (i := 97) (by decide +kernel) rfl
theorem tw7_98 : Cond.selects RX12 yX12_doubles yX12_doubles ∈ TB := tb_in7 (i := 98) (by decide +kernel) rfl
theorem tw7_99 : Cond.code yX12_doubles cX12_doubles 2 (some .int) ∈ TB := tb_in7 (i := 99) rfl rfl
theorem tw8_0 : Cond.selects RX12 yX12_soonest yX12_soonest ∈ TB := tb_in8 (i := 0) (by decide +kernel) rfl
theorem tw8_1 : Cond.code yX12_soonest cX12_soonest 2 (some .int) ∈ TB := tb_in8 (i := 1) rfl rfl
theorem tw8_100 : Cond.instanceMethod yX12_many ∈ TB := tb_in8 (i := 100) (by decide +kernel) rfl
theorem tw8_101 : Cond.selects RX12 yX12_many yX12_many ∈ TB := tb_in8 (i := 101) (by decide +kernel) rfl
theorem tw8_102 : Cond.code yX12_many cX12_many 5 (some .int) ∈ TB := tb_in8 (i := 102) rfl rfl
theorem tw8_104 : Cond.instanceMethod yX12_sure ∈ TB := tb_in8 (i := 104) (by decide +kernel) rfl
theorem tw8_105 : Cond.selects RX12 yX12_sure yX12_sure ∈ TB := tb_in8 (i := 105) (by decide +kernel) rfl
theorem tw8_106 : Cond.code yX12_sure cX12_sure 6 (some .int) ∈ TB := tb_in8 (i := 106) rfl rfl
theorem tw8_108 : Cond.instanceMethod yX12_known ∈ TB := tb_in8 (i := 108) (by decide +kernel) rfl
theorem tw8_109 : Cond.selects RX12 yX12_known yX12_known ∈ TB := tb_in8 (i := 109) (by decide +kernel) rfl
theorem tw8_11 : Cond.instanceMethod yX12_quickest ∈ TB := tb_in8 (i := 11) (by decide +kernel) rfl
theorem tw8_110 : Cond.code yX12_known cX12_known 4 (some .int) ∈ TB := tb_in8 (i := 110) rfl rfl
theorem tw8_111 : Cond.methodLink RX12 410 yX12_knownOf ∈ TB := tb_in8 (i := 111) (by decide +kernel) rfl
theorem tw8_113 : Cond.instanceMethod yX12_knownOf ∈ TB := tb_in8 (i := 113) (by decide +kernel) rfl
theorem tw8_114 : Cond.code yX12_knownOf cX12_knownOf 6 (some .int) ∈ TB := tb_in8 (i := 114) rfl rfl
theorem tw8_116 : Cond.instanceMethod yX12_blind ∈ TB := tb_in8 (i := 116) (by decide +kernel) rfl
theorem tw8_117 : Cond.selects RX12 yX12_blind yX12_blind ∈ TB := tb_in8 (i := 117) (by decide +kernel) rfl
theorem tw8_118 : Cond.code yX12_blind cX12_blind 4 (some .int) ∈ TB := tb_in8 (i := 118) rfl rfl
theorem tw8_119 : Cond.methodLink RX12 413 yX12_blindOf ∈ TB := tb_in8 (i := 119) (by decide +kernel) rfl
theorem tw8_12 : Cond.selects RX12 yX12_quickest yX12_quickest ∈ TB := tb_in8 (i := 12) (by decide +kernel) rfl
theorem tw8_121 : Cond.instanceMethod yX12_blindOf ∈ TB := tb_in8 (i := 121) (by decide +kernel) rfl
theorem tw8_122 : Cond.code yX12_blindOf cX12_blindOf 8 (some .int) ∈ TB := tb_in8 (i := 122) rfl rfl
theorem tw8_123 : Cond.methodLink RX12 404 yX12_isGoodNow ∈ TB := tb_in8 (i := 123) (by decide +kernel) rfl
theorem tw8_125 : Cond.instanceMethod yX12_isGoodNow ∈ TB := tb_in8 (i := 125) (by decide +kernel) rfl
theorem tw8_126 : Cond.code yX12_isGoodNow cX12_isGoodNow 3 (some .boolean) ∈ TB := tb_in8 (i := 126) rfl rfl
theorem tw8_128 : Cond.instanceMethod yX12_goes ∈ TB := tb_in8 (i := 128) (by decide +kernel) rfl
theorem tw8_129 : Cond.selects RX12 yX12_goes yX12_goes ∈ TB := tb_in8 (i := 129) (by decide +kernel) rfl
theorem tw8_13 : Cond.code yX12_quickest cX12_quickest 6 (some .int) ∈ TB := tb_in8 (i := 13) rfl rfl
theorem tw8_130 : Cond.code yX12_goes cX12_goes 4 (some .int) ∈ TB := tb_in8 (i := 130) rfl rfl
theorem tw8_132 : Cond.instanceMethod yX12_worth ∈ TB := tb_in8 (i := 132) (by decide +kernel) rfl
theorem tw8_133 : Cond.selects RX12 yX12_worth yX12_worth ∈ TB := tb_in8 (i := 133) (by decide +kernel) rfl
theorem tw8_134 : Cond.code yX12_worth cX12_worth 4 (some .int) ∈ TB := tb_in8 (i := 134) rfl rfl
theorem tw8_136 : Cond.instanceMethod yX12_lured ∈ TB := tb_in8 (i := 136) (by decide +kernel) rfl
theorem tw8_137 : Cond.selects RX12 yX12_lured yX12_lured ∈ TB := tb_in8 (i := 137) (by decide +kernel) rfl
theorem tw8_138 : Cond.code yX12_lured cX12_lured 3 (some .int) ∈ TB := tb_in8 (i := 138) rfl rfl
theorem tw8_139 : Cond.methodLink RX12 416 yX12_luredOf ∈ TB := tb_in8 (i := 139) (by decide +kernel) rfl
theorem tw8_14 : Cond.constantLong RX12 363 (60) ∈ TB := tb_in8 (i := 14) (by decide +kernel) rfl
theorem tw8_141 : Cond.instanceMethod yX12_luredOf ∈ TB := tb_in8 (i := 141) (by decide +kernel) rfl
theorem tw8_142 : Cond.code yX12_luredOf cX12_luredOf 5 (some .int) ∈ TB := tb_in8 (i := 142) rfl rfl
theorem tw8_144 : Cond.instanceMethod yX12_danger ∈ TB := tb_in8 (i := 144) (by decide +kernel) rfl
theorem tw8_145 : Cond.selects RX12 yX12_danger yX12_danger ∈ TB := tb_in8 (i := 145) (by decide +kernel) rfl
theorem tw8_146 : Cond.code yX12_danger cX12_danger 4 (some .int) ∈ TB := tb_in8 (i := 146) rfl rfl
theorem tw8_148 : Cond.instanceMethod yX12_claque ∈ TB := tb_in8 (i := 148) (by decide +kernel) rfl
theorem tw8_149 : Cond.selects RX12 yX12_claque yX12_claque ∈ TB := tb_in8 (i := 149) (by decide +kernel) rfl
theorem tw8_150 : Cond.code yX12_claque cX12_claque 3 (some .int) ∈ TB := tb_in8 (i := 150) rfl rfl
theorem tw8_151 : Cond.methodLink RX12 425 yX12_claques ∈ TB := tb_in8 (i := 151) (by decide +kernel) rfl
theorem tw8_153 : Cond.instanceMethod yX12_claques ∈ TB := tb_in8 (i := 153) (by decide +kernel) rfl
theorem tw8_154 : Cond.code yX12_claques cX12_claques 6 none ∈ TB := tb_in8 (i := 154) rfl rfl
theorem tw8_156 : Cond.instanceMethod yX12_lastly ∈ TB := tb_in8 (i := 156) (by decide +kernel) rfl
theorem tw8_157 : Cond.selects RX12 yX12_lastly yX12_lastly ∈ TB := tb_in8 (i := 157) (by decide +kernel) rfl
theorem tw8_158 : Cond.code yX12_lastly cX12_lastly 3 (some .int) ∈ TB := tb_in8 (i := 158) rfl rfl
theorem tw8_16 : Cond.instanceMethod yX12_wider ∈ TB := tb_in8 (i := 16) (by decide +kernel) rfl
theorem tw8_160 : Cond.instanceMethod yX12_screw ∈ TB := tb_in8 (i := 160) (by decide +kernel) rfl
theorem tw8_161 : Cond.selects RX12 yX12_screw yX12_screw ∈ TB := tb_in8 (i := 161) (by decide +kernel) rfl
theorem tw8_162 : Cond.code yX12_screw cX12_screw 4 (some .int) ∈ TB := tb_in8 (i := 162) rfl rfl
theorem tw8_163 : Cond.constantLong RX12 428 (8) ∈ TB := tb_in8 (i := 163) (by decide +kernel) rfl
theorem tw8_164 : Cond.methodLink RX12 430 yX12_changes ∈ TB := tb_in8 (i := 164) (by decide +kernel) rfl
theorem tw8_166 : Cond.instanceMethod yX12_changes ∈ TB := tb_in8 (i := 166) (by decide +kernel) rfl
theorem tw8_167 : Cond.code yX12_changes cX12_changes 6 none ∈ TB := tb_in8 (i := 167) rfl rfl
theorem tw8_169 : Cond.instanceMethod yX12_king ∈ TB := tb_in8 (i := 169) (by decide +kernel) rfl
theorem tw8_17 : Cond.selects RX12 yX12_wider yX12_wider ∈ TB := tb_in8 (i := 17) (by decide +kernel) rfl
theorem tw8_170 : Cond.selects RX12 yX12_king yX12_king ∈ TB := tb_in8 (i := 170) (by decide +kernel) rfl
theorem tw8_171 : Cond.code yX12_king cX12_king 5 (some .int) ∈ TB := tb_in8 (i := 171) rfl rfl
theorem tw8_173 : Cond.instanceMethod yX12_seats ∈ TB := tb_in8 (i := 173) (by decide +kernel) rfl
theorem tw8_174 : Cond.selects RX12 yX12_seats yX12_seats ∈ TB := tb_in8 (i := 174) (by decide +kernel) rfl
theorem tw8_175 : Cond.code yX12_seats cX12_seats 5 (some .int) ∈ TB := tb_in8 (i := 175) rfl rfl
theorem tw8_177 : Cond.instanceMethod yX12_undo ∈ TB := tb_in8 (i := 177) (by decide +kernel) rfl
theorem tw8_178 : Cond.selects RX12 yX12_undo yX12_undo ∈ TB := tb_in8 (i := 178) (by decide +kernel) rfl
theorem tw8_179 : Cond.code yX12_undo cX12_undo 3 (some .int) ∈ TB := tb_in8 (i := 179) rfl rfl
theorem tw8_18 : Cond.code yX12_wider cX12_wider 5 (some .int) ∈ TB := tb_in8 (i := 18) rfl rfl
theorem tw8_181 : Cond.instanceMethod yX12_drawn ∈ TB := tb_in8 (i := 181) (by decide +kernel) rfl
theorem tw8_182 : Cond.selects RX12 yX12_drawn yX12_drawn ∈ TB := tb_in8 (i := 182) (by decide +kernel) rfl
theorem tw8_183 : Cond.code yX12_drawn cX12_drawn 4 (some .int) ∈ TB := tb_in8 (i := 183) rfl rfl
theorem tw8_184 : Cond.methodLink RX12 444 yX12_isDraw ∈ TB := tb_in8 (i := 184) (by decide +kernel) rfl
theorem tw8_186 : Cond.instanceMethod yX12_isDraw ∈ TB := tb_in8 (i := 186) (by decide +kernel) rfl
theorem tw8_187 : Cond.code yX12_isDraw cX12_isDraw 3 (some .boolean) ∈ TB := tb_in8 (i := 187) rfl rfl
theorem tw8_188 : Cond.constantLong RX12 442 (2000000000) ∈ TB := tb_in8 (i := 188) (by decide +kernel) rfl
theorem tw8_189 : Cond.constantLong RX12 447 (5) ∈ TB := tb_in8 (i := 189) (by decide +kernel) rfl
theorem tw8_190 : Cond.methodLink RX12 449 yX12_draws ∈ TB := tb_in8 (i := 190) (by decide +kernel) rfl
theorem tw8_192 : Cond.instanceMethod yX12_draws ∈ TB := tb_in8 (i := 192) (by decide +kernel) rfl
theorem tw8_193 : Cond.code yX12_draws cX12_draws 8 none ∈ TB := tb_in8 (i := 193) rfl rfl
theorem tw8_194 : Cond.constantLong RX12 434 (1103515245) ∈ TB := tb_in8 (i := 194) (by decide +kernel) rfl
theorem tw8_195 : Cond.constantLong RX12 436 (12345) ∈ TB := tb_in8 (i := 195) (by decide +kernel) rfl
theorem tw8_196 : Cond.constantLong RX12 438 (2147483648) ∈ TB := tb_in8 (i := 196) (by decide +kernel) rfl
theorem tw8_197 : Cond.constantLong RX12 440 (65536) ∈ TB := tb_in8 (i := 197) (by decide +kernel) rfl
theorem tw8_199 : Cond.instanceMethod yX12_lucky ∈ TB := tb_in8 (i := 199) (by decide +kernel) rfl
theorem tw8_2 : Cond.methodLink RX12 360 yX12_soonestOf ∈ TB := tb_in8 (i := 2) (by decide +kernel) rfl
theorem tw8_20 : Cond.instanceMethod yX12_stand ∈ TB := tb_in8 (i := 20) (by decide +kernel) rfl
theorem tw8_200 : Cond.selects RX12 yX12_lucky yX12_lucky ∈ TB := tb_in8 (i := 200) (by decide +kernel) rfl
theorem tw8_201 : Cond.code yX12_lucky cX12_lucky 6 (some .int) ∈ TB := tb_in8 (i := 201) rfl rfl
theorem tw8_203 : Cond.instanceMethod yX12_count ∈ TB := tb_in8 (i := 203) (by decide +kernel) rfl
theorem tw8_204 : Cond.selects RX12 yX12_count yX12_count ∈ TB := tb_in8 (i := 204) (by decide +kernel) rfl
theorem tw8_205 : Cond.code yX12_count cX12_count 4 (some .int) ∈ TB := tb_in8 (i := 205) rfl rfl
theorem tw8_207 : Cond.instanceMethod yX12_image ∈ TB := tb_in8 (i := 207) (by decide +kernel) rfl
theorem tw8_208 : Cond.selects RX12 yX12_image yX12_image ∈ TB := tb_in8 (i := 208) (by decide +kernel) rfl
theorem tw8_209 : Cond.code yX12_image cX12_image 2 (some .int) ∈ TB := tb_in8 (i := 209) rfl rfl
theorem tw8_21 : Cond.selects RX12 yX12_stand yX12_stand ∈ TB := tb_in8 (i := 21) (by decide +kernel) rfl
theorem tw8_210 : Cond.constantLong RX12 453 (2) ∈ TB := tb_in8 (i := 210) (by decide +kernel) rfl
theorem tw8_212 : Cond.instanceMethod yX12_back ∈ TB := tb_in8 (i := 212) (by decide +kernel) rfl
theorem tw8_213 : Cond.selects RX12 yX12_back yX12_back ∈ TB := tb_in8 (i := 213) (by decide +kernel) rfl
theorem tw8_214 : Cond.code yX12_back cX12_back 2 (some .int) ∈ TB := tb_in8 (i := 214) rfl rfl
theorem tw8_22 : Cond.code yX12_stand cX12_stand 3 (some .int) ∈ TB := tb_in8 (i := 22) rfl rfl
theorem tw8_23 : Cond.constantLong RX12 374 (7) ∈ TB := tb_in8 (i := 23) (by decide +kernel) rfl
theorem tw8_24 : Cond.methodLink RX12 376 yX12_standOf ∈ TB := tb_in8 (i := 24) (by decide +kernel) rfl
theorem tw8_26 : Cond.instanceMethod yX12_standOf ∈ TB := tb_in8 (i := 26) (by decide +kernel) rfl
theorem tw8_27 : Cond.code yX12_standOf cX12_standOf 5 (some .int) ∈ TB := tb_in8 (i := 27) rfl rfl
theorem tw8_28 : Cond.methodLink RX12 368 yX12_areGood ∈ TB := tb_in8 (i := 28) (by decide +kernel) rfl
theorem tw8_30 : Cond.instanceMethod yX12_areGood ∈ TB := tb_in8 (i := 30) (by decide +kernel) rfl
theorem tw8_31 : Cond.code yX12_areGood cX12_areGood 3 (some .boolean) ∈ TB := tb_in8 (i := 31) rfl rfl
theorem tw8_32 : Cond.methodLink RX12 365 yX12_isBit ∈ TB := tb_in8 (i := 32) (by decide +kernel) rfl
theorem tw8_33 : Cond.static yX12_isBit ∈ TB := tb_in8 (i := 33) (by decide +kernel) rfl
theorem tw8_34 : Cond.code yX12_isBit cX12_isBit 2 (some .boolean) ∈ TB := tb_in8 (i := 34) rfl rfl
theorem tw8_35 : Cond.methodLink RX12 371 yX12_worstBy ∈ TB := tb_in8 (i := 35) (by decide +kernel) rfl
theorem tw8_37 : Cond.instanceMethod yX12_worstBy ∈ TB := tb_in8 (i := 37) (by decide +kernel) rfl
theorem tw8_38 : Cond.code yX12_worstBy cX12_worstBy 7 (some .int) ∈ TB := tb_in8 (i := 38) rfl rfl
theorem tw8_4 : Cond.instanceMethod yX12_soonestOf ∈ TB := tb_in8 (i := 4) (by decide +kernel) rfl
theorem tw8_40 : Cond.instanceMethod yX12_stands ∈ TB := tb_in8 (i := 40) (by decide +kernel) rfl
theorem tw8_41 : Cond.selects RX12 yX12_stands yX12_stands ∈ TB := tb_in8 (i := 41) (by decide +kernel) rfl
theorem tw8_42 : Cond.code yX12_stands cX12_stands 2 (some .int) ∈ TB := tb_in8 (i := 42) rfl rfl
theorem tw8_44 : Cond.instanceMethod yX12_needs ∈ TB := tb_in8 (i := 44) (by decide +kernel) rfl
theorem tw8_45 : Cond.selects RX12 yX12_needs yX12_needs ∈ TB := tb_in8 (i := 45) (by decide +kernel) rfl
theorem tw8_46 : Cond.code yX12_needs cX12_needs 2 (some .int) ∈ TB := tb_in8 (i := 46) rfl rfl
theorem tw8_48 : Cond.instanceMethod yX12_wind ∈ TB := tb_in8 (i := 48) (by decide +kernel) rfl
theorem tw8_49 : Cond.selects RX12 yX12_wind yX12_wind ∈ TB := tb_in8 (i := 49) (by decide +kernel) rfl
theorem tw8_5 : Cond.code yX12_soonestOf cX12_soonestOf 7 (some .int) ∈ TB := tb_in8 (i := 5) rfl rfl
theorem tw8_50 : Cond.code yX12_wind cX12_wind 2 (some .int) ∈ TB := tb_in8 (i := 50) rfl rfl
theorem tw8_51 : Cond.methodLink RX12 379 yX12_windOf ∈ TB := tb_in8 (i := 51) (by decide +kernel) rfl
theorem tw8_53 : Cond.instanceMethod yX12_windOf ∈ TB := tb_in8 (i := 53) (by decide +kernel) rfl
theorem tw8_54 : Cond.code yX12_windOf cX12_windOf 7 (some .int) ∈ TB := tb_in8 (i := 54) rfl rfl
theorem tw8_56 : Cond.instanceMethod yX12_calmest ∈ TB := tb_in8 (i := 56) (by decide +kernel) rfl
theorem tw8_57 : Cond.selects RX12 yX12_calmest yX12_calmest ∈ TB := tb_in8 (i := 57) (by decide +kernel) rfl
theorem tw8_58 : Cond.code yX12_calmest cX12_calmest 4 (some .int) ∈ TB := tb_in8 (i := 58) rfl rfl
theorem tw8_6 : Cond.methodLink RX12 357 yX12_sitters ∈ TB := tb_in8 (i := 6) (by decide +kernel) rfl
theorem tw8_60 : Cond.instanceMethod yX12_seen ∈ TB := tb_in8 (i := 60) (by decide +kernel) rfl
theorem tw8_61 : Cond.selects RX12 yX12_seen yX12_seen ∈ TB := tb_in8 (i := 61) (by decide +kernel) rfl
theorem tw8_62 : Cond.code yX12_seen cX12_seen 6 (some .long) ∈ TB := tb_in8 (i := 62) rfl rfl
theorem tw8_63 : Cond.methodLink RX12 386 yX12_whyNotSeen ∈ TB := tb_in8 (i := 63) (by decide +kernel) rfl
theorem tw8_65 : Cond.instanceMethod yX12_whyNotSeen ∈ TB := tb_in8 (i := 65) (by decide +kernel) rfl
theorem tw8_66 : Cond.code yX12_whyNotSeen cX12_whyNotSeen 3 (some .int) ∈ TB := tb_in8 (i := 66) rfl rfl
theorem tw8_67 : Cond.methodLink RX12 382 yX12_cellOf ∈ TB := tb_in8 (i := 67) (by decide +kernel) rfl
theorem tw8_69 : Cond.instanceMethod yX12_cellOf ∈ TB := tb_in8 (i := 69) (by decide +kernel) rfl
theorem tw8_70 : Cond.code yX12_cellOf cX12_cellOf 3 (some .long) ∈ TB := tb_in8 (i := 70) rfl rfl
theorem tw8_71 : Cond.methodLink RX12 389 yX12_isSeen ∈ TB := tb_in8 (i := 71) (by decide +kernel) rfl
theorem tw8_73 : Cond.instanceMethod yX12_isSeen ∈ TB := tb_in8 (i := 73) (by decide +kernel) rfl
theorem tw8_74 : Cond.code yX12_isSeen cX12_isSeen 4 (some .boolean) ∈ TB := tb_in8 (i := 74) rfl rfl
theorem tw8_76 : Cond.instanceMethod yX12_ask ∈ TB := tb_in8 (i := 76) (by decide +kernel) rfl
theorem tw8_77 : Cond.selects RX12 yX12_ask yX12_ask ∈ TB := tb_in8 (i := 77) (by decide +kernel) rfl
theorem tw8_78 : Cond.code yX12_ask cX12_ask 3 (some .int) ∈ TB := tb_in8 (i := 78) rfl rfl
theorem tw8_79 : Cond.methodLink RX12 395 yX12_asksOf ∈ TB := tb_in8 (i := 79) (by decide +kernel) rfl
theorem tw8_8 : Cond.instanceMethod yX12_sitters ∈ TB := tb_in8 (i := 8) (by decide +kernel) rfl
theorem tw8_81 : Cond.instanceMethod yX12_asksOf ∈ TB := tb_in8 (i := 81) (by decide +kernel) rfl
theorem tw8_82 : Cond.code yX12_asksOf cX12_asksOf 8 (some .int) ∈ TB := tb_in8 (i := 82) rfl rfl
theorem tw8_84 : Cond.instanceMethod yX12_leaves ∈ TB := tb_in8 (i := 84) (by decide +kernel) rfl
theorem tw8_85 : Cond.selects RX12 yX12_leaves yX12_leaves ∈ TB := tb_in8 (i := 85) (by decide +kernel) rfl
theorem tw8_86 : Cond.code yX12_leaves cX12_leaves 3 (some .int) ∈ TB := tb_in8 (i := 86) rfl rfl
theorem tw8_88 : Cond.instanceMethod yX12_fell ∈ TB := tb_in8 (i := 88) (by decide +kernel) rfl
theorem tw8_89 : Cond.selects RX12 yX12_fell yX12_fell ∈ TB := tb_in8 (i := 89) (by decide +kernel) rfl
theorem tw8_9 : Cond.code yX12_sitters cX12_sitters 3 (some .int) ∈ TB := tb_in8 (i := 9) rfl rfl
theorem tw8_90 : Cond.code yX12_fell cX12_fell 6 (some .long) ∈ TB := tb_in8 (i := 90) rfl rfl
theorem tw8_91 : Cond.methodLink RX12 398 yX12_whyNotFell ∈ TB := tb_in8 (i := 91) (by decide +kernel) rfl
theorem tw8_93 : Cond.instanceMethod yX12_whyNotFell ∈ TB := tb_in8 (i := 93) (by decide +kernel) rfl
theorem tw8_94 : Cond.code yX12_whyNotFell cX12_whyNotFell 3 (some .int) ∈ TB := tb_in8 (i := 94) rfl rfl
theorem tw8_95 : Cond.methodLink RX12 401 yX12_isFell ∈ TB := tb_in8 (i := 95) (by decide +kernel) rfl
theorem tw8_97 : Cond.instanceMethod yX12_isFell ∈ TB := tb_in8 (i := 97) (by decide +kernel) rfl
theorem tw8_98 : Cond.code yX12_isFell cX12_isFell 4 (some .boolean) ∈ TB := tb_in8 (i := 98) rfl rfl
theorem tws_0 : Cond.selects RX6 yX6_advance yX6_advance ∈ TB := tb_sel (i := 0) (by decide +kernel)
theorem tws_1 : Cond.selects RX6 yX6_readNumber yX6_readNumber ∈ TB := tb_sel (i := 1) (by decide +kernel)
theorem tws_10 : Cond.selects RX6 yX6_readSits yX6_readSits ∈ TB := tb_sel (i := 10) (by decide +kernel)
theorem tws_100 : Cond.selects RX12 yX12_asksOf yX12_asksOf ∈ TB := tb_sel (i := 100) (by decide +kernel)
theorem tws_101 : Cond.selects RX12 yX12_whyNotFell yX12_whyNotFell ∈ TB := tb_sel (i := 101) (by decide +kernel)
theorem tws_102 : Cond.selects RX12 yX12_isFell yX12_isFell ∈ TB := tb_sel (i := 102) (by decide +kernel)
theorem tws_103 : Cond.selects RX12 yX12_knownOf yX12_knownOf ∈ TB := tb_sel (i := 103) (by decide +kernel)
theorem tws_104 : Cond.selects RX12 yX12_blindOf yX12_blindOf ∈ TB := tb_sel (i := 104) (by decide +kernel)
theorem tws_105 : Cond.selects RX12 yX12_isGoodNow yX12_isGoodNow ∈ TB := tb_sel (i := 105) (by decide +kernel)
theorem tws_106 : Cond.selects RX12 yX12_luredOf yX12_luredOf ∈ TB := tb_sel (i := 106) (by decide +kernel)
theorem tws_107 : Cond.selects RX12 yX12_claques yX12_claques ∈ TB := tb_sel (i := 107) (by decide +kernel)
theorem tws_108 : Cond.selects RX12 yX12_changes yX12_changes ∈ TB := tb_sel (i := 108) (by decide +kernel)
theorem tws_109 : Cond.selects RX12 yX12_isDraw yX12_isDraw ∈ TB := tb_sel (i := 109) (by decide +kernel)
theorem tws_11 : Cond.selects RX0 yX0_turnScrews yX0_turnScrews ∈ TB := tb_sel (i := 11) (by decide +kernel)
theorem tws_110 : Cond.selects RX12 yX12_draws yX12_draws ∈ TB := tb_sel (i := 110) (by decide +kernel)
theorem tws_12 : Cond.selects RX0 yX0_staysAsKings yX0_staysAsKings ∈ TB := tb_sel (i := 12) (by decide +kernel)
theorem tws_13 : Cond.selects RX0 yX0_paced yX0_paced ∈ TB := tb_sel (i := 13) (by decide +kernel)
theorem tws_14 : Cond.selects RX0 yX0_paceAll yX0_paceAll ∈ TB := tb_sel (i := 14) (by decide +kernel)
theorem tws_15 : Cond.selects RX7 yX7_gather yX7_gather ∈ TB := tb_sel (i := 15) (by decide +kernel)
theorem tws_16 : Cond.selects RX7 yX7_lookRound yX7_lookRound ∈ TB := tb_sel (i := 16) (by decide +kernel)
theorem tws_17 : Cond.selects RX7 yX7_spotOrNone yX7_spotOrNone ∈ TB := tb_sel (i := 17) (by decide +kernel)
theorem tws_18 : Cond.selects RX7 yX7_sendAll yX7_sendAll ∈ TB := tb_sel (i := 18) (by decide +kernel)
theorem tws_19 : Cond.selects RX7 yX7_sendOne yX7_sendOne ∈ TB := tb_sel (i := 19) (by decide +kernel)
theorem tws_2 : Cond.selects RX6 yX6_readWord yX6_readWord ∈ TB := tb_sel (i := 2) (by decide +kernel)
theorem tws_20 : Cond.selects RX7 yX7_canStillEnd yX7_canStillEnd ∈ TB := tb_sel (i := 20) (by decide +kernel)
theorem tws_21 : Cond.selects RX7 yX7_reach yX7_reach ∈ TB := tb_sel (i := 21) (by decide +kernel)
theorem tws_22 : Cond.selects RX7 yX7_comeIn yX7_comeIn ∈ TB := tb_sel (i := 22) (by decide +kernel)
theorem tws_23 : Cond.selects RX7 yX7_turnAsideFromExit yX7_turnAsideFromExit ∈ TB := tb_sel (i := 23) (by decide +kernel)
theorem tws_24 : Cond.selects RX7 yX7_goOut yX7_goOut ∈ TB := tb_sel (i := 24) (by decide +kernel)
theorem tws_25 : Cond.selects RX7 yX7_turnPaths yX7_turnPaths ∈ TB := tb_sel (i := 25) (by decide +kernel)
theorem tws_26 : Cond.selects RX7 yX7_fewestThinkable yX7_fewestThinkable ∈ TB := tb_sel (i := 26) (by decide +kernel)
theorem tws_27 : Cond.selects RX0 yX0_isDraught yX0_isDraught ∈ TB := tb_sel (i := 27) (by decide +kernel)
theorem tws_28 : Cond.selects RX11 yX11_refusalOfSeen yX11_refusalOfSeen ∈ TB := tb_sel (i := 28) (by decide +kernel)
theorem tws_29 : Cond.selects RX11 yX11_refusalOfRow yX11_refusalOfRow ∈ TB := tb_sel (i := 29) (by decide +kernel)
theorem tws_3 : Cond.selects RX6 yX6_readHall yX6_readHall ∈ TB := tb_sel (i := 3) (by decide +kernel)
theorem tws_30 : Cond.selects RX2 yX2_leftByAsking yX2_leftByAsking ∈ TB := tb_sel (i := 30) (by decide +kernel)
theorem tws_31 : Cond.selects RX11 yX11_refusalOfFell yX11_refusalOfFell ∈ TB := tb_sel (i := 31) (by decide +kernel)
theorem tws_32 : Cond.selects RX11 yX11_canDraw yX11_canDraw ∈ TB := tb_sel (i := 32) (by decide +kernel)
theorem tws_33 : Cond.selects RX3 yX3_goesOut yX3_goesOut ∈ TB := tb_sel (i := 33) (by decide +kernel)
theorem tws_34 : Cond.selects RX11 yX11_slotsWithRow yX11_slotsWithRow ∈ TB := tb_sel (i := 34) (by decide +kernel)
theorem tws_35 : Cond.selects RX8 yX8_cut yX8_cut ∈ TB := tb_sel (i := 35) (by decide +kernel)
theorem tws_36 : Cond.selects RX12 yX12_four yX12_four ∈ TB := tb_sel (i := 36) (by decide +kernel)
theorem tws_37 : Cond.selects RX12 yX12_clears yX12_clears ∈ TB := tb_sel (i := 37) (by decide +kernel)
theorem tws_38 : Cond.selects RX12 yX12_begins yX12_begins ∈ TB := tb_sel (i := 38) (by decide +kernel)
theorem tws_39 : Cond.selects RX12 yX12_next yX12_next ∈ TB := tb_sel (i := 39) (by decide +kernel)
theorem tws_4 : Cond.selects RX6 yX6_take yX6_take ∈ TB := tb_sel (i := 4) (by decide +kernel)
theorem tws_40 : Cond.selects RX12 yX12_isByte yX12_isByte ∈ TB := tb_sel (i := 40) (by decide +kernel)
theorem tws_41 : Cond.selects RX12 yX12_isGood yX12_isGood ∈ TB := tb_sel (i := 41) (by decide +kernel)
theorem tws_42 : Cond.selects RX12 yX12_asks yX12_asks ∈ TB := tb_sel (i := 42) (by decide +kernel)
theorem tws_43 : Cond.selects RX12 yX12_takes yX12_takes ∈ TB := tb_sel (i := 43) (by decide +kernel)
theorem tws_44 : Cond.selects RX12 yX12_is yX12_is ∈ TB := tb_sel (i := 44) (by decide +kernel)
theorem tws_45 : Cond.selects RX12 yX12_fails yX12_fails ∈ TB := tb_sel (i := 45) (by decide +kernel)
theorem tws_46 : Cond.selects RX12 yX12_number_ yX12_number_ ∈ TB := tb_sel (i := 46) (by decide +kernel)
theorem tws_47 : Cond.selects RX12 yX12_number yX12_number ∈ TB := tb_sel (i := 47) (by decide +kernel)
theorem tws_48 : Cond.selects RX12 yX12_line yX12_line ∈ TB := tb_sel (i := 48) (by decide +kernel)
theorem tws_49 : Cond.selects RX12 yX12_hasRead yX12_hasRead ∈ TB := tb_sel (i := 49) (by decide +kernel)
theorem tws_5 : Cond.selects RX6 yX6_refuse yX6_refuse ∈ TB := tb_sel (i := 5) (by decide +kernel)
theorem tws_50 : Cond.selects RX12 yX12_placeLine yX12_placeLine ∈ TB := tb_sel (i := 50) (by decide +kernel)
theorem tws_51 : Cond.selects RX12 yX12_rowHere yX12_rowHere ∈ TB := tb_sel (i := 51) (by decide +kernel)
theorem tws_52 : Cond.selects RX12 yX12_placeAt yX12_placeAt ∈ TB := tb_sel (i := 52) (by decide +kernel)
theorem tws_53 : Cond.selects RX12 yX12_seatHere yX12_seatHere ∈ TB := tb_sel (i := 53) (by decide +kernel)
theorem tws_54 : Cond.selects RX12 yX12_exitLine yX12_exitLine ∈ TB := tb_sel (i := 54) (by decide +kernel)
theorem tws_55 : Cond.selects RX12 yX12_hasExit yX12_hasExit ∈ TB := tb_sel (i := 55) (by decide +kernel)
theorem tws_56 : Cond.selects RX12 yX12_sitsLine yX12_sitsLine ∈ TB := tb_sel (i := 56) (by decide +kernel)
theorem tws_57 : Cond.selects RX12 yX12_ends yX12_ends ∈ TB := tb_sel (i := 57) (by decide +kernel)
theorem tws_58 : Cond.selects RX12 yX12_isOver yX12_isOver ∈ TB := tb_sel (i := 58) (by decide +kernel)
theorem tws_59 : Cond.selects RX12 yX12_copyHall yX12_copyHall ∈ TB := tb_sel (i := 59) (by decide +kernel)
theorem tws_6 : Cond.selects RX6 yX6_takeNumber yX6_takeNumber ∈ TB := tb_sel (i := 6) (by decide +kernel)
theorem tws_60 : Cond.selects RX12 yX12_isPlace yX12_isPlace ∈ TB := tb_sel (i := 60) (by decide +kernel)
theorem tws_61 : Cond.selects RX12 yX12_of yX12_of ∈ TB := tb_sel (i := 61) (by decide +kernel)
theorem tws_62 : Cond.selects RX12 yX12_isExit yX12_isExit ∈ TB := tb_sel (i := 62) (by decide +kernel)
theorem tws_63 : Cond.selects RX12 yX12_isSeat yX12_isSeat ∈ TB := tb_sel (i := 63) (by decide +kernel)
theorem tws_64 : Cond.selects RX12 yX12_isRow yX12_isRow ∈ TB := tb_sel (i := 64) (by decide +kernel)
theorem tws_65 : Cond.selects RX12 yX12_isAct yX12_isAct ∈ TB := tb_sel (i := 65) (by decide +kernel)
theorem tws_66 : Cond.selects RX12 yX12_isHall yX12_isHall ∈ TB := tb_sel (i := 66) (by decide +kernel)
theorem tws_67 : Cond.selects RX12 yX12_lays yX12_lays ∈ TB := tb_sel (i := 67) (by decide +kernel)
theorem tws_68 : Cond.selects RX12 yX12_goesTo yX12_goesTo ∈ TB := tb_sel (i := 68) (by decide +kernel)
theorem tws_69 : Cond.selects RX12 yX12_stays yX12_stays ∈ TB := tb_sel (i := 69) (by decide +kernel)
theorem tws_7 : Cond.selects RX6 yX6_readPlace yX6_readPlace ∈ TB := tb_sel (i := 7) (by decide +kernel)
theorem tws_70 : Cond.selects RX12 yX12_isStayed yX12_isStayed ∈ TB := tb_sel (i := 70) (by decide +kernel)
theorem tws_71 : Cond.selects RX12 yX12_placeOf yX12_placeOf ∈ TB := tb_sel (i := 71) (by decide +kernel)
theorem tws_72 : Cond.selects RX12 yX12_whoOf yX12_whoOf ∈ TB := tb_sel (i := 72) (by decide +kernel)
theorem tws_73 : Cond.selects RX12 yX12_behindOf yX12_behindOf ∈ TB := tb_sel (i := 73) (by decide +kernel)
theorem tws_74 : Cond.selects RX12 yX12_doublesOf yX12_doublesOf ∈ TB := tb_sel (i := 74) (by decide +kernel)
theorem tws_75 : Cond.selects RX12 yX12_areAlike yX12_areAlike ∈ TB := tb_sel (i := 75) (by decide +kernel)
theorem tws_76 : Cond.selects RX12 yX12_farOf yX12_farOf ∈ TB := tb_sel (i := 76) (by decide +kernel)
theorem tws_77 : Cond.selects RX12 yX12_nearest yX12_nearest ∈ TB := tb_sel (i := 77) (by decide +kernel)
theorem tws_78 : Cond.selects RX12 yX12_isGoodExit yX12_isGoodExit ∈ TB := tb_sel (i := 78) (by decide +kernel)
theorem tws_79 : Cond.selects RX12 yX12_isGoodPlace yX12_isGoodPlace ∈ TB := tb_sel (i := 79) (by decide +kernel)
theorem tws_8 : Cond.selects RX6 yX6_readExit yX6_readExit ∈ TB := tb_sel (i := 8) (by decide +kernel)
theorem tws_80 : Cond.selects RX12 yX12_stepsTo yX12_stepsTo ∈ TB := tb_sel (i := 80) (by decide +kernel)
theorem tws_81 : Cond.selects RX12 yX12_fallsOf yX12_fallsOf ∈ TB := tb_sel (i := 81) (by decide +kernel)
theorem tws_82 : Cond.selects RX12 yX12_worstOf yX12_worstOf ∈ TB := tb_sel (i := 82) (by decide +kernel)
theorem tws_83 : Cond.selects RX12 yX12_isLawful yX12_isLawful ∈ TB := tb_sel (i := 83) (by decide +kernel)
theorem tws_84 : Cond.selects RX12 yX12_laysDoors yX12_laysDoors ∈ TB := tb_sel (i := 84) (by decide +kernel)
theorem tws_85 : Cond.selects RX12 yX12_outsOf yX12_outsOf ∈ TB := tb_sel (i := 85) (by decide +kernel)
theorem tws_86 : Cond.selects RX12 yX12_seeks yX12_seeks ∈ TB := tb_sel (i := 86) (by decide +kernel)
theorem tws_87 : Cond.selects RX12 yX12_visits yX12_visits ∈ TB := tb_sel (i := 87) (by decide +kernel)
theorem tws_88 : Cond.selects RX12 yX12_holds yX12_holds ∈ TB := tb_sel (i := 88) (by decide +kernel)
theorem tws_89 : Cond.selects RX12 yX12_beside yX12_beside ∈ TB := tb_sel (i := 89) (by decide +kernel)
theorem tws_9 : Cond.selects RX6 yX6_readKing yX6_readKing ∈ TB := tb_sel (i := 9) (by decide +kernel)
theorem tws_90 : Cond.selects RX12 yX12_goesOut yX12_goesOut ∈ TB := tb_sel (i := 90) (by decide +kernel)
theorem tws_91 : Cond.selects RX12 yX12_soonestOf yX12_soonestOf ∈ TB := tb_sel (i := 91) (by decide +kernel)
theorem tws_92 : Cond.selects RX12 yX12_sitters yX12_sitters ∈ TB := tb_sel (i := 92) (by decide +kernel)
theorem tws_93 : Cond.selects RX12 yX12_standOf yX12_standOf ∈ TB := tb_sel (i := 93) (by decide +kernel)
theorem tws_94 : Cond.selects RX12 yX12_areGood yX12_areGood ∈ TB := tb_sel (i := 94) (by decide +kernel)
theorem tws_95 : Cond.selects RX12 yX12_worstBy yX12_worstBy ∈ TB := tb_sel (i := 95) (by decide +kernel)
theorem tws_96 : Cond.selects RX12 yX12_windOf yX12_windOf ∈ TB := tb_sel (i := 96) (by decide +kernel)
theorem tws_97 : Cond.selects RX12 yX12_whyNotSeen yX12_whyNotSeen ∈ TB := tb_sel (i := 97) (by decide +kernel)
theorem tws_98 : Cond.selects RX12 yX12_cellOf yX12_cellOf ∈ TB := tb_sel (i := 98) (by decide +kernel)
theorem tws_99 : Cond.selects RX12 yX12_isSeen yX12_isSeen ∈ TB := tb_sel (i := 99) (by decide +kernel)
