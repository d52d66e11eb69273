theorem tw1_55 : Cond.methodLink RX1 3 objectInit ∈ TB := tb_in1 (i := 55) (by decide +kernel) rfl
theorem tw1_24 : Cond.instanceMethod objectInit ∈ TB := tb_in1 (i := 24) (by decide +kernel) rfl
theorem tw1_25 : Cond.code objectInit ⟨#[0xb1]⟩ 1 none ∈ TB := tb_in1 (i := 25) rfl rfl
theorem tw1_79 : Cond.arrayClass .int ∈ TB := tb_in1 (i := 79) (by decide +kernel) rfl
theorem tw1_59 : Cond.fieldLink RX1 9 "MovingExits$Changes" "kind" "[I" ∈ TB := tb_in1 (i := 59) (by decide +kernel) rfl
theorem tw1_61 : Cond.fieldLink RX1 15 "MovingExits$Changes" "which" "[I" ∈ TB := tb_in1 (i := 61) (by decide +kernel) rfl
theorem tw1_63 : Cond.fieldLink RX1 18 "MovingExits$Changes" "first" "[I" ∈ TB := tb_in1 (i := 63) (by decide +kernel) rfl
theorem tw1_65 : Cond.fieldLink RX1 21 "MovingExits$Changes" "second" "[I" ∈ TB := tb_in1 (i := 65) (by decide +kernel) rfl
theorem tw1_49 : Cond.methodLink RX5 3 objectInit ∈ TB := tb_in1 (i := 49) (by decide +kernel) rfl
theorem tw1_112 : Cond.fieldLink RX5 9 "MovingExits$Hall" "rowOf" "[I" ∈ TB := tb_in1 (i := 112) (by decide +kernel) rfl
theorem tw1_116 : Cond.fieldLink RX5 15 "MovingExits$Hall" "seatOf" "[I" ∈ TB := tb_in1 (i := 116) (by decide +kernel) rfl
theorem tw1_120 : Cond.fieldLink RX5 18 "MovingExits$Hall" "leadsTo" "[I" ∈ TB := tb_in1 (i := 120) (by decide +kernel) rfl
theorem tw1_124 : Cond.fieldLink RX5 21 "MovingExits$Hall" "then" "[I" ∈ TB := tb_in1 (i := 124) (by decide +kernel) rfl
theorem tw1_127 : Cond.fieldLink RX5 24 "MovingExits$Hall" "firstPlace" "[I" ∈ TB := tb_in1 (i := 127) (by decide +kernel) rfl
theorem tw1_131 : Cond.fieldLink RX5 27 "MovingExits$Hall" "wide" "[I" ∈ TB := tb_in1 (i := 131) (by decide +kernel) rfl
theorem tw1_135 : Cond.fieldLink RX5 30 "MovingExits$Hall" "kingFrom" "[I" ∈ TB := tb_in1 (i := 135) (by decide +kernel) rfl
theorem tw1_138 : Cond.fieldLink RX5 33 "MovingExits$Hall" "kingTo" "[I" ∈ TB := tb_in1 (i := 138) (by decide +kernel) rfl
theorem tw1_50 : Cond.classLink RX5 36 RX1 ∈ TB := tb_in1 (i := 50) (by decide +kernel) rfl
theorem tw1_51 : Cond.instantiable RX1 5 ∈ TB := tb_in1 (i := 51) (by decide +kernel) rfl
theorem tw1_4 : Cond.initialized RX1 ∈ TB := tb_in1 (i := 4) (by decide +kernel) rfl
theorem tw1_54 : Cond.code yX1_init cX1_init 1 none ∈ TB := tb_in1 (i := 54) rfl rfl
theorem tw1_53 : Cond.instanceMethod yX1_init ∈ TB := tb_in1 (i := 53) (by decide +kernel) rfl
theorem tw1_141 : Cond.fieldLink RX5 39 "MovingExits$Hall" "changes" "LMovingExits$Changes;" ∈ TB := tb_in1 (i := 141) (by decide +kernel) rfl
theorem tw1_31 : Cond.methodLink RX10 3 objectInit ∈ TB := tb_in1 (i := 31) (by decide +kernel) rfl
theorem tw1_40 : Cond.arrayClass .byte ∈ TB := tb_in1 (i := 40) (by decide +kernel) rfl
theorem tw1_32 : Cond.fieldLink RX10 9 "MovingExits$Tape" "bytes" "[B" ∈ TB := tb_in1 (i := 32) (by decide +kernel) rfl
theorem tw1_180 : Cond.methodLink RX8 3 objectInit ∈ TB := tb_in1 (i := 180) (by decide +kernel) rfl
theorem tw1_195 : Cond.arrayClass .long ∈ TB := tb_in1 (i := 195) (by decide +kernel) rfl
theorem tw1_181 : Cond.fieldLink RX8 9 "MovingExits$Slot" "numbers" "[J" ∈ TB := tb_in1 (i := 181) (by decide +kernel) rfl
theorem tw1_185 : Cond.fieldLink RX8 15 "MovingExits$Slot" "length" "I" ∈ TB := tb_in1 (i := 185) (by decide +kernel) rfl
theorem tw2_104 : Cond.methodLink RX9 3 objectInit ∈ TB := tb_in2 (i := 104) (by decide +kernel) rfl
theorem tw2_105 : Cond.fieldLink RX9 9 "MovingExits$Stands" "near" "[J" ∈ TB := tb_in2 (i := 105) (by decide +kernel) rfl
theorem tw1_201 : Cond.methodLink RX6 3 objectInit ∈ TB := tb_in1 (i := 201) (by decide +kernel) rfl
theorem tw1_204 : Cond.fieldLink RX6 9 "MovingExits$Reader" "faultPlace" "I" ∈ TB := tb_in1 (i := 204) (by decide +kernel) rfl
theorem tw1_206 : Cond.fieldLink RX6 15 "MovingExits$Reader" "tape" "LMovingExits$Tape;" ∈ TB := tb_in1 (i := 206) (by decide +kernel) rfl
theorem tw1_207 : Cond.fieldLink RX6 19 "MovingExits$Reader" "told" "LMovingExits$Hall;" ∈ TB := tb_in1 (i := 207) (by decide +kernel) rfl
theorem tw2_0 : Cond.methodLink RX0 3 objectInit ∈ TB := tb_in2 (i := 0) (by decide +kernel) rfl
theorem tw2_6 : Cond.fieldLink RX0 9 "MovingExits$Acts" "placeIn" "[I" ∈ TB := tb_in2 (i := 6) (by decide +kernel) rfl
theorem tw1_78 : Cond.arrayClass .boolean ∈ TB := tb_in1 (i := 78) (by decide +kernel) rfl
theorem tw2_7 : Cond.fieldLink RX0 15 "MovingExits$Acts" "isPaced" "[Z" ∈ TB := tb_in2 (i := 7) (by decide +kernel) rfl
theorem tw2_8 : Cond.fieldLink RX0 19 "MovingExits$Acts" "goodSteps" "[I" ∈ TB := tb_in2 (i := 8) (by decide +kernel) rfl
theorem tw2_9 : Cond.fieldLink RX0 22 "MovingExits$Acts" "nearestBehind" "[I" ∈ TB := tb_in2 (i := 9) (by decide +kernel) rfl
theorem tw2_1 : Cond.fieldLink RX0 25 "MovingExits$Acts" "hall" "LMovingExits$Hall;" ∈ TB := tb_in2 (i := 1) (by decide +kernel) rfl
theorem tw2_26 : Cond.methodLink RX2 3 objectInit ∈ TB := tb_in2 (i := 26) (by decide +kernel) rfl
theorem tw2_28 : Cond.fieldLink RX2 9 "MovingExits$Clues" "actsWith" "[I" ∈ TB := tb_in2 (i := 28) (by decide +kernel) rfl
theorem tw2_27 : Cond.fieldLink RX2 15 "MovingExits$Clues" "acts" "LMovingExits$Acts;" ∈ TB := tb_in2 (i := 27) (by decide +kernel) rfl
theorem tw2_39 : Cond.methodLink RX4 3 objectInit ∈ TB := tb_in2 (i := 39) (by decide +kernel) rfl
theorem tw2_41 : Cond.fieldLink RX4 9 "MovingExits$Habits" "goodActs" "[I" ∈ TB := tb_in2 (i := 41) (by decide +kernel) rfl
theorem tw2_40 : Cond.fieldLink RX4 15 "MovingExits$Habits" "acts" "LMovingExits$Acts;" ∈ TB := tb_in2 (i := 40) (by decide +kernel) rfl
theorem tw2_52 : Cond.methodLink RX7 3 objectInit ∈ TB := tb_in2 (i := 52) (by decide +kernel) rfl
theorem tw2_54 : Cond.fieldLink RX7 9 "MovingExits$Rush" "wide" "[I" ∈ TB := tb_in2 (i := 54) (by decide +kernel) rfl
theorem tw2_55 : Cond.fieldLink RX7 15 "MovingExits$Rush" "distance" "[I" ∈ TB := tb_in2 (i := 55) (by decide +kernel) rfl
theorem tw2_56 : Cond.fieldLink RX7 18 "MovingExits$Rush" "beside" "[I" ∈ TB := tb_in2 (i := 56) (by decide +kernel) rfl
theorem tw2_57 : Cond.fieldLink RX7 21 "MovingExits$Rush" "goesTo" "[I" ∈ TB := tb_in2 (i := 57) (by decide +kernel) rfl
theorem tw2_58 : Cond.fieldLink RX7 24 "MovingExits$Rush" "comesFrom" "[I" ∈ TB := tb_in2 (i := 58) (by decide +kernel) rfl
theorem tw2_59 : Cond.fieldLink RX7 27 "MovingExits$Rush" "ended" "[I" ∈ TB := tb_in2 (i := 59) (by decide +kernel) rfl
theorem tw2_60 : Cond.fieldLink RX7 30 "MovingExits$Rush" "parent" "[I" ∈ TB := tb_in2 (i := 60) (by decide +kernel) rfl
theorem tw2_61 : Cond.fieldLink RX7 33 "MovingExits$Rush" "stack" "[I" ∈ TB := tb_in2 (i := 61) (by decide +kernel) rfl
theorem tw2_62 : Cond.fieldLink RX7 36 "MovingExits$Rush" "reached" "[J" ∈ TB := tb_in2 (i := 62) (by decide +kernel) rfl
theorem tw2_53 : Cond.fieldLink RX7 40 "MovingExits$Rush" "acts" "LMovingExits$Acts;" ∈ TB := tb_in2 (i := 53) (by decide +kernel) rfl
theorem tw2_114 : Cond.methodLink RX3 3 objectInit ∈ TB := tb_in2 (i := 114) (by decide +kernel) rfl
theorem tw2_115 : Cond.fieldLink RX3 9 "MovingExits$Crowd" "comers" "[I" ∈ TB := tb_in2 (i := 115) (by decide +kernel) rfl
theorem tw2_119 : Cond.fieldLink RX3 15 "MovingExits$Crowd" "acts" "LMovingExits$Acts;" ∈ TB := tb_in2 (i := 119) (by decide +kernel) rfl
theorem tw1_23 : Cond.methodLink RX11 1 objectInit ∈ TB := tb_in1 (i := 23) (by decide +kernel) rfl
theorem tw1_26 : Cond.classLink RX11 7 RX10 ∈ TB := tb_in1 (i := 26) (by decide +kernel) rfl
theorem tw1_27 : Cond.instantiable RX10 2 ∈ TB := tb_in1 (i := 27) (by decide +kernel) rfl
theorem tw1_2 : Cond.initialized RX10 ∈ TB := tb_in1 (i := 2) (by decide +kernel) rfl
theorem tw1_30 : Cond.code yX10_init cX10_init 1 none ∈ TB := tb_in1 (i := 30) rfl rfl
theorem tw1_29 : Cond.instanceMethod yX10_init ∈ TB := tb_in1 (i := 29) (by decide +kernel) rfl
theorem tw2_127 : Cond.fieldLink RX11 10 "MovingExits" "tape" "LMovingExits$Tape;" ∈ TB := tb_in2 (i := 127) (by decide +kernel) rfl
theorem tw1_41 : Cond.classLink RX11 16 RX5 ∈ TB := tb_in1 (i := 41) (by decide +kernel) rfl
theorem tw2_129 : Cond.fieldLink RX11 18 "MovingExits" "images" "[LMovingExits$Hall;" ∈ TB := tb_in2 (i := 129) (by decide +kernel) rfl
theorem tw2_130 : Cond.fieldLink RX11 22 "MovingExits" "imageMade" "[Z" ∈ TB := tb_in2 (i := 130) (by decide +kernel) rfl
theorem tw1_43 : Cond.classLink RX11 26 RX8 ∈ TB := tb_in1 (i := 43) (by decide +kernel) rfl
theorem tw2_131 : Cond.fieldLink RX11 28 "MovingExits" "slots" "[LMovingExits$Slot;" ∈ TB := tb_in2 (i := 131) (by decide +kernel) rfl
theorem tw1_45 : Cond.instantiable RX5 16 ∈ TB := tb_in1 (i := 45) (by decide +kernel) rfl
theorem tw1_3 : Cond.initialized RX5 ∈ TB := tb_in1 (i := 3) (by decide +kernel) rfl
theorem tw1_48 : Cond.code yX5_init cX5_init 1 none ∈ TB := tb_in1 (i := 48) rfl rfl
theorem tw1_47 : Cond.instanceMethod yX5_init ∈ TB := tb_in1 (i := 47) (by decide +kernel) rfl
theorem tw2_138 : Cond.fieldLink RX11 33 "MovingExits" "hall" "LMovingExits$Hall;" ∈ TB := tb_in2 (i := 138) (by decide +kernel) rfl
theorem tw2_139 : Cond.fieldLink RX11 37 "MovingExits" "draft" "LMovingExits$Hall;" ∈ TB := tb_in2 (i := 139) (by decide +kernel) rfl
theorem tw1_176 : Cond.instantiable RX8 3 ∈ TB := tb_in1 (i := 176) (by decide +kernel) rfl
theorem tw1_5 : Cond.initialized RX8 ∈ TB := tb_in1 (i := 5) (by decide +kernel) rfl
theorem tw1_179 : Cond.code yX8_init cX8_init 1 none ∈ TB := tb_in1 (i := 179) rfl rfl
theorem tw1_178 : Cond.instanceMethod yX8_init ∈ TB := tb_in1 (i := 178) (by decide +kernel) rfl
theorem tw1_196 : Cond.classLink RX11 41 RX6 ∈ TB := tb_in1 (i := 196) (by decide +kernel) rfl
theorem tw1_197 : Cond.instantiable RX6 10 ∈ TB := tb_in1 (i := 197) (by decide +kernel) rfl
theorem tw1_6 : Cond.initialized RX6 ∈ TB := tb_in1 (i := 6) (by decide +kernel) rfl
theorem tw1_200 : Cond.code yX6_init cX6_init 3 none ∈ TB := tb_in1 (i := 200) rfl rfl
theorem tw1_198 : Cond.methodLink RX11 43 yX6_init ∈ TB := tb_in1 (i := 198) (by decide +kernel) rfl
theorem tw1_199 : Cond.instanceMethod yX6_init ∈ TB := tb_in1 (i := 199) (by decide +kernel) rfl
theorem tw2_128 : Cond.fieldLink RX11 46 "MovingExits" "reader" "LMovingExits$Reader;" ∈ TB := tb_in2 (i := 128) (by decide +kernel) rfl
theorem tw1_235 : Cond.classLink RX11 50 RX0 ∈ TB := tb_in1 (i := 235) (by decide +kernel) rfl
theorem tw1_236 : Cond.instantiable RX0 5 ∈ TB := tb_in1 (i := 236) (by decide +kernel) rfl
theorem tw1_7 : Cond.initialized RX0 ∈ TB := tb_in1 (i := 7) (by decide +kernel) rfl
theorem tw1_239 : Cond.code yX0_init cX0_init 2 none ∈ TB := tb_in1 (i := 239) rfl rfl
theorem tw1_237 : Cond.methodLink RX11 52 yX0_init ∈ TB := tb_in1 (i := 237) (by decide +kernel) rfl
theorem tw1_238 : Cond.instanceMethod yX0_init ∈ TB := tb_in1 (i := 238) (by decide +kernel) rfl
theorem tw2_132 : Cond.fieldLink RX11 55 "MovingExits" "acts" "LMovingExits$Acts;" ∈ TB := tb_in2 (i := 132) (by decide +kernel) rfl
theorem tw2_21 : Cond.classLink RX11 59 RX2 ∈ TB := tb_in2 (i := 21) (by decide +kernel) rfl
theorem tw2_22 : Cond.instantiable RX2 2 ∈ TB := tb_in2 (i := 22) (by decide +kernel) rfl
theorem tw1_8 : Cond.initialized RX2 ∈ TB := tb_in1 (i := 8) (by decide +kernel) rfl
theorem tw2_25 : Cond.code yX2_init cX2_init 2 none ∈ TB := tb_in2 (i := 25) rfl rfl
theorem tw2_23 : Cond.methodLink RX11 61 yX2_init ∈ TB := tb_in2 (i := 23) (by decide +kernel) rfl
theorem tw2_24 : Cond.instanceMethod yX2_init ∈ TB := tb_in2 (i := 24) (by decide +kernel) rfl
theorem tw2_133 : Cond.fieldLink RX11 64 "MovingExits" "clues" "LMovingExits$Clues;" ∈ TB := tb_in2 (i := 133) (by decide +kernel) rfl
theorem tw2_34 : Cond.classLink RX11 68 RX4 ∈ TB := tb_in2 (i := 34) (by decide +kernel) rfl
theorem tw2_35 : Cond.instantiable RX4 2 ∈ TB := tb_in2 (i := 35) (by decide +kernel) rfl
theorem tw1_9 : Cond.initialized RX4 ∈ TB := tb_in1 (i := 9) (by decide +kernel) rfl
theorem tw2_38 : Cond.code yX4_init cX4_init 2 none ∈ TB := tb_in2 (i := 38) rfl rfl
theorem tw2_36 : Cond.methodLink RX11 70 yX4_init ∈ TB := tb_in2 (i := 36) (by decide +kernel) rfl
theorem tw2_37 : Cond.instanceMethod yX4_init ∈ TB := tb_in2 (i := 37) (by decide +kernel) rfl
theorem tw2_134 : Cond.fieldLink RX11 71 "MovingExits" "habits" "LMovingExits$Habits;" ∈ TB := tb_in2 (i := 134) (by decide +kernel) rfl
theorem tw2_47 : Cond.classLink RX11 75 RX7 ∈ TB := tb_in2 (i := 47) (by decide +kernel) rfl
theorem tw2_48 : Cond.instantiable RX7 15 ∈ TB := tb_in2 (i := 48) (by decide +kernel) rfl
theorem tw1_10 : Cond.initialized RX7 ∈ TB := tb_in1 (i := 10) (by decide +kernel) rfl
theorem tw2_51 : Cond.code yX7_init cX7_init 2 none ∈ TB := tb_in2 (i := 51) rfl rfl
theorem tw2_49 : Cond.methodLink RX11 77 yX7_init ∈ TB := tb_in2 (i := 49) (by decide +kernel) rfl
theorem tw2_50 : Cond.instanceMethod yX7_init ∈ TB := tb_in2 (i := 50) (by decide +kernel) rfl
theorem tw2_135 : Cond.fieldLink RX11 78 "MovingExits" "rush" "LMovingExits$Rush;" ∈ TB := tb_in2 (i := 135) (by decide +kernel) rfl
theorem tw2_99 : Cond.classLink RX11 82 RX9 ∈ TB := tb_in2 (i := 99) (by decide +kernel) rfl
theorem tw2_100 : Cond.instantiable RX9 1 ∈ TB := tb_in2 (i := 100) (by decide +kernel) rfl
theorem tw1_11 : Cond.initialized RX9 ∈ TB := tb_in1 (i := 11) (by decide +kernel) rfl
theorem tw2_103 : Cond.code yX9_init cX9_init 1 none ∈ TB := tb_in2 (i := 103) rfl rfl
theorem tw2_102 : Cond.instanceMethod yX9_init ∈ TB := tb_in2 (i := 102) (by decide +kernel) rfl
theorem tw2_136 : Cond.fieldLink RX11 85 "MovingExits" "stands" "LMovingExits$Stands;" ∈ TB := tb_in2 (i := 136) (by decide +kernel) rfl
theorem tw2_109 : Cond.classLink RX11 89 RX3 ∈ TB := tb_in2 (i := 109) (by decide +kernel) rfl
theorem tw2_110 : Cond.instantiable RX3 3 ∈ TB := tb_in2 (i := 110) (by decide +kernel) rfl
theorem tw1_12 : Cond.initialized RX3 ∈ TB := tb_in1 (i := 12) (by decide +kernel) rfl
theorem tw2_113 : Cond.code yX3_init cX3_init 2 none ∈ TB := tb_in2 (i := 113) rfl rfl
theorem tw2_111 : Cond.methodLink RX11 91 yX3_init ∈ TB := tb_in2 (i := 111) (by decide +kernel) rfl
theorem tw2_112 : Cond.instanceMethod yX3_init ∈ TB := tb_in2 (i := 112) (by decide +kernel) rfl
theorem tw2_137 : Cond.fieldLink RX11 92 "MovingExits" "crowd" "LMovingExits$Crowd;" ∈ TB := tb_in2 (i := 137) (by decide +kernel) rfl
theorem tw1_80 : Cond.fieldLink RX5 43 "MovingExits$Hall" "lines" "I" ∈ TB := tb_in1 (i := 80) (by decide +kernel) rfl
theorem tw1_103 : Cond.fieldLink RX5 59 "MovingExits$Hall" "exits" "I" ∈ TB := tb_in1 (i := 103) (by decide +kernel) rfl
theorem tw1_97 : Cond.fieldLink RX5 56 "MovingExits$Hall" "places" "I" ∈ TB := tb_in1 (i := 97) (by decide +kernel) rfl
theorem tw1_83 : Cond.fieldLink RX5 47 "MovingExits$Hall" "rows" "I" ∈ TB := tb_in1 (i := 83) (by decide +kernel) rfl
theorem tw5_136 : Cond.constant RX11 382 (2000000000) ∈ TB := tb_in5 (i := 136) (by decide +kernel) rfl
theorem tw1_1 : Cond.initialized RX11 ∈ TB := tb_in1 (i := 1) (by decide +kernel) rfl
theorem tw3_105 : Cond.code yX11_isAct cX11_isAct 1 (some .boolean) ∈ TB := tb_in3 (i := 105) rfl rfl
theorem tw3_103 : Cond.methodLink RX11 167 yX11_isAct ∈ TB := tb_in3 (i := 103) (by decide +kernel) rfl
theorem tw3_104 : Cond.static yX11_isAct ∈ TB := tb_in3 (i := 104) (by decide +kernel) rfl
theorem tw1_108 : Cond.fieldLink RX11 293 "MovingExits$Hall" "exits" "I" ∈ TB := tb_in1 (i := 108) (by decide +kernel) rfl
theorem tw4_192 : Cond.code yX11_isSlot cX11_isSlot 1 (some .boolean) ∈ TB := tb_in4 (i := 192) rfl rfl
theorem tw4_190 : Cond.methodLink RX11 351 yX11_isSlot ∈ TB := tb_in4 (i := 190) (by decide +kernel) rfl
theorem tw4_191 : Cond.static yX11_isSlot ∈ TB := tb_in4 (i := 191) (by decide +kernel) rfl
theorem tw3_131 : Cond.code yX5_isTold cX5_isTold 1 (some .boolean) ∈ TB := tb_in3 (i := 131) rfl rfl
theorem tw3_128 : Cond.methodLink RX11 179 yX5_isTold ∈ TB := tb_in3 (i := 128) (by decide +kernel) rfl
theorem tw3_129 : Cond.instanceMethod yX5_isTold ∈ TB := tb_in3 (i := 129) (by decide +kernel) rfl
theorem tw3_130 : Cond.selects RX5 yX5_isTold yX5_isTold ∈ TB := tb_in3 (i := 130) (by decide +kernel) rfl
theorem tw4_189 : Cond.code yX11_refusalOfRow cX11_refusalOfRow 3 (some .int) ∈ TB := tb_in4 (i := 189) rfl rfl
theorem tw4_186 : Cond.methodLink RX11 383 yX11_refusalOfRow ∈ TB := tb_in4 (i := 186) (by decide +kernel) rfl
theorem tw4_188 : Cond.instanceMethod yX11_refusalOfRow ∈ TB := tb_in4 (i := 188) (by decide +kernel) rfl
theorem tws_29 : Cond.selects RX11 yX11_refusalOfRow yX11_refusalOfRow ∈ TB := tb_sel (i := 29) (by decide +kernel)
theorem tw3_73 : Cond.code yX5_hasPlace cX5_hasPlace 2 (some .boolean) ∈ TB := tb_in3 (i := 73) rfl rfl
theorem tw3_83 : Cond.methodLink RX11 124 yX5_hasPlace ∈ TB := tb_in3 (i := 83) (by decide +kernel) rfl
theorem tw3_71 : Cond.instanceMethod yX5_hasPlace ∈ TB := tb_in3 (i := 71) (by decide +kernel) rfl
theorem tw3_72 : Cond.selects RX5 yX5_hasPlace yX5_hasPlace ∈ TB := tb_in3 (i := 72) (by decide +kernel) rfl
theorem tw3_58 : Cond.code yX5_hasExit cX5_hasExit 2 (some .boolean) ∈ TB := tb_in3 (i := 58) rfl rfl
theorem tw3_88 : Cond.methodLink RX11 141 yX5_hasExit ∈ TB := tb_in3 (i := 88) (by decide +kernel) rfl
theorem tw3_56 : Cond.instanceMethod yX5_hasExit ∈ TB := tb_in3 (i := 56) (by decide +kernel) rfl
theorem tw3_57 : Cond.selects RX5 yX5_hasExit yX5_hasExit ∈ TB := tb_in3 (i := 57) (by decide +kernel) rfl
theorem tw3_96 : Cond.code yX5_hasSeat cX5_hasSeat 3 (some .boolean) ∈ TB := tb_in3 (i := 96) rfl rfl
theorem tw3_93 : Cond.methodLink RX11 156 yX5_hasSeat ∈ TB := tb_in3 (i := 93) (by decide +kernel) rfl
theorem tw3_94 : Cond.instanceMethod yX5_hasSeat ∈ TB := tb_in3 (i := 94) (by decide +kernel) rfl
theorem tw3_95 : Cond.selects RX5 yX5_hasSeat yX5_hasSeat ∈ TB := tb_in3 (i := 95) (by decide +kernel) rfl
theorem tw4_185 : Cond.code yX11_refusalOfSeen cX11_refusalOfSeen 3 (some .int) ∈ TB := tb_in4 (i := 185) rfl rfl
theorem tw4_182 : Cond.methodLink RX11 243 yX11_refusalOfSeen ∈ TB := tb_in4 (i := 182) (by decide +kernel) rfl
theorem tw4_184 : Cond.instanceMethod yX11_refusalOfSeen ∈ TB := tb_in4 (i := 184) (by decide +kernel) rfl
theorem tws_28 : Cond.selects RX11 yX11_refusalOfSeen yX11_refusalOfSeen ∈ TB := tb_sel (i := 28) (by decide +kernel)
theorem tw5_5 : Cond.code yX11_refusalOfFell cX11_refusalOfFell 3 (some .int) ∈ TB := tb_in5 (i := 5) rfl rfl
theorem tw5_2 : Cond.methodLink RX11 257 yX11_refusalOfFell ∈ TB := tb_in5 (i := 2) (by decide +kernel) rfl
theorem tw5_4 : Cond.instanceMethod yX11_refusalOfFell ∈ TB := tb_in5 (i := 4) (by decide +kernel) rfl
theorem tws_31 : Cond.selects RX11 yX11_refusalOfFell yX11_refusalOfFell ∈ TB := tb_sel (i := 31) (by decide +kernel)
theorem tw4_117 : Cond.code yX11_isCountOfActs cX11_isCountOfActs 1 (some .boolean) ∈ TB := tb_in4 (i := 117) rfl rfl
theorem tw4_115 : Cond.methodLink RX11 226 yX11_isCountOfActs ∈ TB := tb_in4 (i := 115) (by decide +kernel) rfl
theorem tw4_116 : Cond.static yX11_isCountOfActs ∈ TB := tb_in4 (i := 116) (by decide +kernel) rfl
theorem tw1_101 : Cond.fieldLink RX11 275 "MovingExits$Hall" "places" "I" ∈ TB := tb_in1 (i := 101) (by decide +kernel) rfl
theorem tw5_135 : Cond.code yX11_canDraw cX11_canDraw 3 (some .boolean) ∈ TB := tb_in5 (i := 135) rfl rfl
theorem tw5_132 : Cond.methodLink RX11 318 yX11_canDraw ∈ TB := tb_in5 (i := 132) (by decide +kernel) rfl
theorem tw5_134 : Cond.instanceMethod yX11_canDraw ∈ TB := tb_in5 (i := 134) (by decide +kernel) rfl
theorem tws_32 : Cond.selects RX11 yX11_canDraw yX11_canDraw ∈ TB := tb_sel (i := 32) (by decide +kernel)
theorem tw1_33 : Cond.fieldLink RX10 15 "MovingExits$Tape" "length" "I" ∈ TB := tb_in1 (i := 33) (by decide +kernel) rfl
theorem tw2_174 : Cond.code yX10_hasRoom cX10_hasRoom 1 (some .boolean) ∈ TB := tb_in2 (i := 174) rfl rfl
theorem tw2_171 : Cond.methodLink RX11 96 yX10_hasRoom ∈ TB := tb_in2 (i := 171) (by decide +kernel) rfl
theorem tw2_172 : Cond.instanceMethod yX10_hasRoom ∈ TB := tb_in2 (i := 172) (by decide +kernel) rfl
theorem tw2_173 : Cond.selects RX10 yX10_hasRoom yX10_hasRoom ∈ TB := tb_in2 (i := 173) (by decide +kernel) rfl
theorem tw2_178 : Cond.code yX10_add cX10_add 3 none ∈ TB := tb_in2 (i := 178) rfl rfl
theorem tw2_175 : Cond.methodLink RX11 100 yX10_add ∈ TB := tb_in2 (i := 175) (by decide +kernel) rfl
theorem tw2_176 : Cond.instanceMethod yX10_add ∈ TB := tb_in2 (i := 176) (by decide +kernel) rfl
theorem tw2_177 : Cond.selects RX10 yX10_add yX10_add ∈ TB := tb_in2 (i := 177) (by decide +kernel) rfl
theorem tw1_34 : Cond.fieldLink RX11 104 "MovingExits$Tape" "length" "I" ∈ TB := tb_in1 (i := 34) (by decide +kernel) rfl
theorem tw1_205 : Cond.fieldLink RX11 121 "MovingExits$Reader" "faultPlace" "I" ∈ TB := tb_in1 (i := 205) (by decide +kernel) rfl
theorem tw1_203 : Cond.fieldLink RX11 118 "MovingExits$Reader" "fault" "I" ∈ TB := tb_in1 (i := 203) (by decide +kernel) rfl
theorem tw1_88 : Cond.fieldLink RX5 50 "MovingExits$Hall" "seats" "I" ∈ TB := tb_in1 (i := 88) (by decide +kernel) rfl
theorem tw1_93 : Cond.fieldLink RX5 53 "MovingExits$Hall" "law" "I" ∈ TB := tb_in1 (i := 93) (by decide +kernel) rfl
theorem tw1_109 : Cond.fieldLink RX5 62 "MovingExits$Hall" "sitters" "J" ∈ TB := tb_in1 (i := 109) (by decide +kernel) rfl
theorem tw1_57 : Cond.fieldLink RX5 66 "MovingExits$Changes" "size" "I" ∈ TB := tb_in1 (i := 57) (by decide +kernel) rfl
theorem tw1_208 : Cond.fieldLink RX6 31 "MovingExits$Reader" "position" "I" ∈ TB := tb_in1 (i := 208) (by decide +kernel) rfl
theorem tw2_202 : Cond.code yX10_byteAt cX10_byteAt 2 (some .int) ∈ TB := tb_in2 (i := 202) rfl rfl
theorem tw2_199 : Cond.methodLink RX6 148 yX10_byteAt ∈ TB := tb_in2 (i := 199) (by decide +kernel) rfl
theorem tw2_200 : Cond.instanceMethod yX10_byteAt ∈ TB := tb_in2 (i := 200) (by decide +kernel) rfl
theorem tw2_201 : Cond.selects RX10 yX10_byteAt yX10_byteAt ∈ TB := tb_in2 (i := 201) (by decide +kernel) rfl
theorem tw1_210 : Cond.fieldLink RX6 84 "MovingExits$Reader" "tokenPlace" "I" ∈ TB := tb_in1 (i := 210) (by decide +kernel) rfl
theorem tw1_209 : Cond.fieldLink RX6 37 "MovingExits$Reader" "token" "I" ∈ TB := tb_in1 (i := 209) (by decide +kernel) rfl
theorem tw2_194 : Cond.code yX5_clear cX5_clear 1 none ∈ TB := tb_in2 (i := 194) rfl rfl
theorem tw2_191 : Cond.methodLink RX6 23 yX5_clear ∈ TB := tb_in2 (i := 191) (by decide +kernel) rfl
theorem tw2_192 : Cond.instanceMethod yX5_clear ∈ TB := tb_in2 (i := 192) (by decide +kernel) rfl
theorem tw2_193 : Cond.selects RX5 yX5_clear yX5_clear ∈ TB := tb_in2 (i := 193) (by decide +kernel) rfl
theorem tw1_202 : Cond.fieldLink RX6 28 "MovingExits$Reader" "fault" "I" ∈ TB := tb_in1 (i := 202) (by decide +kernel) rfl
theorem tw2_198 : Cond.code yX6_advance cX6_advance 2 none ∈ TB := tb_in2 (i := 198) rfl rfl
theorem tw2_195 : Cond.methodLink RX6 34 yX6_advance ∈ TB := tb_in2 (i := 195) (by decide +kernel) rfl
theorem tw2_197 : Cond.instanceMethod yX6_advance ∈ TB := tb_in2 (i := 197) (by decide +kernel) rfl
theorem tws_0 : Cond.selects RX6 yX6_advance yX6_advance ∈ TB := tb_sel (i := 0) (by decide +kernel)
theorem tw1_102 : Cond.fieldLink RX0 29 "MovingExits$Hall" "exits" "I" ∈ TB := tb_in1 (i := 102) (by decide +kernel) rfl
theorem tw3_46 : Cond.code yX0_turnScrews cX0_turnScrews 5 none ∈ TB := tb_in3 (i := 46) rfl rfl
theorem tw3_43 : Cond.methodLink RX0 38 yX0_turnScrews ∈ TB := tb_in3 (i := 43) (by decide +kernel) rfl
theorem tw3_45 : Cond.instanceMethod yX0_turnScrews ∈ TB := tb_in3 (i := 45) (by decide +kernel) rfl
theorem tws_11 : Cond.selects RX0 yX0_turnScrews yX0_turnScrews ∈ TB := tb_sel (i := 11) (by decide +kernel)
theorem tw2_190 : Cond.code yX6_tell cX6_tell 4 (some .boolean) ∈ TB := tb_in2 (i := 190) rfl rfl
theorem tw2_187 : Cond.methodLink RX11 108 yX6_tell ∈ TB := tb_in2 (i := 187) (by decide +kernel) rfl
theorem tw2_188 : Cond.instanceMethod yX6_tell ∈ TB := tb_in2 (i := 188) (by decide +kernel) rfl
theorem tw2_189 : Cond.selects RX6 yX6_tell yX6_tell ∈ TB := tb_in2 (i := 189) (by decide +kernel) rfl
theorem tw3_42 : Cond.code yX0_play cX0_play 3 none ∈ TB := tb_in3 (i := 42) rfl rfl
theorem tw3_39 : Cond.methodLink RX11 112 yX0_play ∈ TB := tb_in3 (i := 39) (by decide +kernel) rfl
theorem tw3_40 : Cond.instanceMethod yX0_play ∈ TB := tb_in3 (i := 40) (by decide +kernel) rfl
theorem tw3_41 : Cond.selects RX0 yX0_play yX0_play ∈ TB := tb_in3 (i := 41) (by decide +kernel) rfl
theorem tw1_82 : Cond.fieldLink RX11 115 "MovingExits$Hall" "lines" "I" ∈ TB := tb_in1 (i := 82) (by decide +kernel) rfl
theorem tw4_62 : Cond.constantLong RJ13 314 (6148914691236517205) ∈ TB := tb_in4 (i := 62) (by decide +kernel) rfl
theorem tw4_63 : Cond.constantLong RJ13 316 (3689348814741910323) ∈ TB := tb_in4 (i := 63) (by decide +kernel) rfl
theorem tw4_64 : Cond.constantLong RJ13 318 (1085102592571150095) ∈ TB := tb_in4 (i := 64) (by decide +kernel) rfl
theorem tw4_196 : Cond.code yX8_hasRow cX8_hasRow 1 (some .boolean) ∈ TB := tb_in4 (i := 196) rfl rfl
theorem tw4_193 : Cond.methodLink RX11 358 yX8_hasRow ∈ TB := tb_in4 (i := 193) (by decide +kernel) rfl
theorem tw4_194 : Cond.instanceMethod yX8_hasRow ∈ TB := tb_in4 (i := 194) (by decide +kernel) rfl
theorem tw4_195 : Cond.selects RX8 yX8_hasRow yX8_hasRow ∈ TB := tb_in4 (i := 195) (by decide +kernel) rfl
theorem tw1_87 : Cond.fieldLink RX11 334 "MovingExits$Hall" "rows" "I" ∈ TB := tb_in1 (i := 87) (by decide +kernel) rfl
theorem tw1_92 : Cond.fieldLink RX11 337 "MovingExits$Hall" "seats" "I" ∈ TB := tb_in1 (i := 92) (by decide +kernel) rfl
theorem tw1_96 : Cond.fieldLink RX11 237 "MovingExits$Hall" "law" "I" ∈ TB := tb_in1 (i := 96) (by decide +kernel) rfl
theorem tw1_111 : Cond.fieldLink RX11 340 "MovingExits$Hall" "sitters" "J" ∈ TB := tb_in1 (i := 111) (by decide +kernel) rfl
theorem tw1_15 : Cond.initialized RJ13 ∈ TB := tb_in1 (i := 15) (by decide +kernel) rfl
theorem tw4_61 : Cond.code yJ13_bitCount_95d88 cJ13_bitCount_95d88 2 (some .int) ∈ TB := tb_in4 (i := 61) rfl rfl
theorem tw5_22 : Cond.methodLink RX11 263 yJ13_bitCount_95d88 ∈ TB := tb_in5 (i := 22) (by decide +kernel) rfl
theorem tw4_60 : Cond.static yJ13_bitCount_95d88 ∈ TB := tb_in4 (i := 60) (by decide +kernel) rfl
theorem tw1_142 : Cond.fieldLink RX11 296 "MovingExits$Hall" "changes" "LMovingExits$Changes;" ∈ TB := tb_in1 (i := 142) (by decide +kernel) rfl
theorem tw1_58 : Cond.fieldLink RX11 315 "MovingExits$Changes" "size" "I" ∈ TB := tb_in1 (i := 58) (by decide +kernel) rfl
theorem tw5_169 : Cond.code yX11_slotsWithRow cX11_slotsWithRow 3 (some .int) ∈ TB := tb_in5 (i := 169) rfl rfl
theorem tw5_166 : Cond.methodLink RX11 344 yX11_slotsWithRow ∈ TB := tb_in5 (i := 166) (by decide +kernel) rfl
theorem tw5_168 : Cond.instanceMethod yX11_slotsWithRow ∈ TB := tb_in5 (i := 168) (by decide +kernel) rfl
theorem tws_34 : Cond.selects RX11 yX11_slotsWithRow yX11_slotsWithRow ∈ TB := tb_sel (i := 34) (by decide +kernel)
theorem tw1_56 : Cond.fieldLink RX1 24 "MovingExits$Changes" "size" "I" ∈ TB := tb_in1 (i := 56) (by decide +kernel) rfl
theorem tw5_185 : Cond.methodLink RX1 32 arraycopyName ∈ TB := tb_in5 (i := 185) (by decide +kernel) rfl
theorem tw5_180 : Cond.native arraycopyName ∈ TB := tb_in5 (i := 180) (by decide +kernel) rfl
theorem tw5_179 : Cond.static arraycopyName ∈ TB := tb_in5 (i := 179) (by decide +kernel) rfl
theorem tw1_17 : Cond.initialized RJ10 ∈ TB := tb_in1 (i := 17) (by decide +kernel) rfl
theorem tw5_178 : Cond.methodLink RX5 69 arraycopyName ∈ TB := tb_in5 (i := 178) (by decide +kernel) rfl
theorem tw5_184 : Cond.code yX1_keep cX1_keep 2 none ∈ TB := tb_in5 (i := 184) rfl rfl
theorem tw5_181 : Cond.methodLink RX5 75 yX1_keep ∈ TB := tb_in5 (i := 181) (by decide +kernel) rfl
theorem tw5_182 : Cond.instanceMethod yX1_keep ∈ TB := tb_in5 (i := 182) (by decide +kernel) rfl
theorem tw5_183 : Cond.selects RX1 yX1_keep yX1_keep ∈ TB := tb_in5 (i := 183) (by decide +kernel) rfl
theorem tw5_177 : Cond.code yX5_copyFrom cX5_copyFrom 2 none ∈ TB := tb_in5 (i := 177) rfl rfl
theorem tw5_174 : Cond.methodLink RX11 348 yX5_copyFrom ∈ TB := tb_in5 (i := 174) (by decide +kernel) rfl
theorem tw5_175 : Cond.instanceMethod yX5_copyFrom ∈ TB := tb_in5 (i := 175) (by decide +kernel) rfl
theorem tw5_176 : Cond.selects RX5 yX5_copyFrom yX5_copyFrom ∈ TB := tb_in5 (i := 176) (by decide +kernel) rfl
theorem tw1_183 : Cond.fieldLink RX8 19 "MovingExits$Slot" "width" "I" ∈ TB := tb_in1 (i := 183) (by decide +kernel) rfl
theorem tw5_197 : Cond.code yX8_lay cX8_lay 4 none ∈ TB := tb_in5 (i := 197) rfl rfl
theorem tw5_194 : Cond.methodLink RX11 354 yX8_lay ∈ TB := tb_in5 (i := 194) (by decide +kernel) rfl
theorem tw5_195 : Cond.instanceMethod yX8_lay ∈ TB := tb_in5 (i := 195) (by decide +kernel) rfl
theorem tw5_196 : Cond.selects RX8 yX8_lay yX8_lay ∈ TB := tb_in5 (i := 196) (by decide +kernel) rfl
theorem tw5_224 : Cond.methodLink RX12 1 objectInit ∈ TB := tb_in5 (i := 224) (by decide +kernel) rfl
theorem tw5_226 : Cond.fieldLink RX12 7 "MovingExitsModel" "width" "[I" ∈ TB := tb_in5 (i := 226) (by decide +kernel) rfl
theorem tw5_227 : Cond.fieldLink RX12 13 "MovingExitsModel" "many" "[I" ∈ TB := tb_in5 (i := 227) (by decide +kernel) rfl
theorem tw5_228 : Cond.fieldLink RX12 16 "MovingExitsModel" "cells" "[J" ∈ TB := tb_in5 (i := 228) (by decide +kernel) rfl
theorem tw5_229 : Cond.fieldLink RX12 20 "MovingExitsModel" "moved" "[J" ∈ TB := tb_in5 (i := 229) (by decide +kernel) rfl
theorem tw5_230 : Cond.fieldLink RX12 23 "MovingExitsModel" "tape" "[B" ∈ TB := tb_in5 (i := 230) (by decide +kernel) rfl
theorem tw6_0 : Cond.fieldLink RX12 27 "MovingExitsModel" "faultPlace" "I" ∈ TB := tb_in6 (i := 0) (by decide +kernel) rfl
theorem tw6_1 : Cond.fieldLink RX12 31 "MovingExitsModel" "lines" "[I" ∈ TB := tb_in6 (i := 1) (by decide +kernel) rfl
theorem tw6_2 : Cond.fieldLink RX12 34 "MovingExitsModel" "has" "[I" ∈ TB := tb_in6 (i := 2) (by decide +kernel) rfl
theorem tw6_3 : Cond.fieldLink RX12 37 "MovingExitsModel" "spot" "[I" ∈ TB := tb_in6 (i := 3) (by decide +kernel) rfl
theorem tw6_4 : Cond.fieldLink RX12 40 "MovingExitsModel" "exit" "[I" ∈ TB := tb_in6 (i := 4) (by decide +kernel) rfl
theorem tw6_5 : Cond.fieldLink RX12 43 "MovingExitsModel" "isSat" "[Z" ∈ TB := tb_in6 (i := 5) (by decide +kernel) rfl
theorem tw6_6 : Cond.fieldLink RX12 47 "MovingExitsModel" "change" "[I" ∈ TB := tb_in6 (i := 6) (by decide +kernel) rfl
theorem tw6_7 : Cond.fieldLink RX12 50 "MovingExitsModel" "isKept" "[Z" ∈ TB := tb_in6 (i := 7) (by decide +kernel) rfl
theorem tw6_8 : Cond.fieldLink RX12 53 "MovingExitsModel" "at0" "[I" ∈ TB := tb_in6 (i := 8) (by decide +kernel) rfl
theorem tw6_9 : Cond.fieldLink RX12 56 "MovingExitsModel" "doors" "[I" ∈ TB := tb_in6 (i := 9) (by decide +kernel) rfl
theorem tw6_10 : Cond.fieldLink RX12 59 "MovingExitsModel" "flow" "[I" ∈ TB := tb_in6 (i := 10) (by decide +kernel) rfl
theorem tw6_11 : Cond.fieldLink RX12 62 "MovingExitsModel" "from" "[I" ∈ TB := tb_in6 (i := 11) (by decide +kernel) rfl
theorem tw6_12 : Cond.fieldLink RX12 65 "MovingExitsModel" "edge" "[I" ∈ TB := tb_in6 (i := 12) (by decide +kernel) rfl
theorem tw6_13 : Cond.fieldLink RX12 68 "MovingExitsModel" "queue" "[I" ∈ TB := tb_in6 (i := 13) (by decide +kernel) rfl
theorem tw6_20 : Cond.fieldLink RX12 71 "MovingExitsModel" "comes" "[I" ∈ TB := tb_in6 (i := 20) (by decide +kernel) rfl
theorem tw6_101 : Cond.constantLong RX12 77 (3) ∈ TB := tb_in6 (i := 101) (by decide +kernel) rfl
theorem tw1_13 : Cond.initialized RX12 ∈ TB := tb_in1 (i := 13) (by decide +kernel) rfl
theorem tw6_104 : Cond.code yX12_in cX12_in 6 (some .boolean) ∈ TB := tb_in6 (i := 104) rfl rfl
theorem tw6_102 : Cond.methodLink RX12 79 yX12_in ∈ TB := tb_in6 (i := 102) (by decide +kernel) rfl
theorem tw6_103 : Cond.static yX12_in ∈ TB := tb_in6 (i := 103) (by decide +kernel) rfl
theorem tw7_38 : Cond.code yX12_isRow cX12_isRow 3 (some .boolean) ∈ TB := tb_in7 (i := 38) rfl rfl
theorem tw7_35 : Cond.methodLink RX12 234 yX12_isRow ∈ TB := tb_in7 (i := 35) (by decide +kernel) rfl
theorem tw7_37 : Cond.instanceMethod yX12_isRow ∈ TB := tb_in7 (i := 37) (by decide +kernel) rfl
theorem tws_64 : Cond.selects RX12 yX12_isRow yX12_isRow ∈ TB := tb_sel (i := 64) (by decide +kernel)
theorem tw7_50 : Cond.code yX12_isHall cX12_isHall 1 (some .boolean) ∈ TB := tb_in7 (i := 50) rfl rfl
theorem tw7_47 : Cond.methodLink RX12 237 yX12_isHall ∈ TB := tb_in7 (i := 47) (by decide +kernel) rfl
theorem tw7_49 : Cond.instanceMethod yX12_isHall ∈ TB := tb_in7 (i := 49) (by decide +kernel) rfl
theorem tws_66 : Cond.selects RX12 yX12_isHall yX12_isHall ∈ TB := tb_sel (i := 66) (by decide +kernel)
theorem tw7_46 : Cond.code yX12_isAct cX12_isAct 2 (some .boolean) ∈ TB := tb_in7 (i := 46) rfl rfl
theorem tw7_43 : Cond.methodLink RX12 273 yX12_isAct ∈ TB := tb_in7 (i := 43) (by decide +kernel) rfl
theorem tw7_45 : Cond.instanceMethod yX12_isAct ∈ TB := tb_in7 (i := 45) (by decide +kernel) rfl
theorem tws_65 : Cond.selects RX12 yX12_isAct yX12_isAct ∈ TB := tb_sel (i := 65) (by decide +kernel)
theorem tw6_100 : Cond.code yX12_isSlot cX12_isSlot 1 (some .boolean) ∈ TB := tb_in6 (i := 100) rfl rfl
theorem tw6_98 : Cond.methodLink RX12 83 yX12_isSlot ∈ TB := tb_in6 (i := 98) (by decide +kernel) rfl
theorem tw6_99 : Cond.static yX12_isSlot ∈ TB := tb_in6 (i := 99) (by decide +kernel) rfl
theorem tw5_225 : Cond.fieldLink RX12 74 "MovingExitsModel" "thrown" "I" ∈ TB := tb_in5 (i := 225) (by decide +kernel) rfl
theorem tw7_14 : Cond.code yX12_isPlace cX12_isPlace 3 (some .boolean) ∈ TB := tb_in7 (i := 14) rfl rfl
theorem tw7_11 : Cond.methodLink RX12 247 yX12_isPlace ∈ TB := tb_in7 (i := 11) (by decide +kernel) rfl
theorem tw7_13 : Cond.instanceMethod yX12_isPlace ∈ TB := tb_in7 (i := 13) (by decide +kernel) rfl
theorem tws_60 : Cond.selects RX12 yX12_isPlace yX12_isPlace ∈ TB := tb_sel (i := 60) (by decide +kernel)
theorem tw7_26 : Cond.code yX12_isExit cX12_isExit 3 (some .boolean) ∈ TB := tb_in7 (i := 26) rfl rfl
theorem tw7_23 : Cond.methodLink RX12 250 yX12_isExit ∈ TB := tb_in7 (i := 23) (by decide +kernel) rfl
theorem tw7_25 : Cond.instanceMethod yX12_isExit ∈ TB := tb_in7 (i := 25) (by decide +kernel) rfl
theorem tws_62 : Cond.selects RX12 yX12_isExit yX12_isExit ∈ TB := tb_sel (i := 62) (by decide +kernel)
theorem tw7_34 : Cond.code yX12_isSeat cX12_isSeat 5 (some .boolean) ∈ TB := tb_in7 (i := 34) rfl rfl
theorem tw7_31 : Cond.methodLink RX12 253 yX12_isSeat ∈ TB := tb_in7 (i := 31) (by decide +kernel) rfl
theorem tw7_33 : Cond.instanceMethod yX12_isSeat ∈ TB := tb_in7 (i := 33) (by decide +kernel) rfl
theorem tws_63 : Cond.selects RX12 yX12_isSeat yX12_isSeat ∈ TB := tb_sel (i := 63) (by decide +kernel)
theorem tw8_66 : Cond.code yX12_whyNotSeen cX12_whyNotSeen 3 (some .int) ∈ TB := tb_in8 (i := 66) rfl rfl
theorem tw8_63 : Cond.methodLink RX12 386 yX12_whyNotSeen ∈ TB := tb_in8 (i := 63) (by decide +kernel) rfl
theorem tw8_65 : Cond.instanceMethod yX12_whyNotSeen ∈ TB := tb_in8 (i := 65) (by decide +kernel) rfl
theorem tws_97 : Cond.selects RX12 yX12_whyNotSeen yX12_whyNotSeen ∈ TB := tb_sel (i := 97) (by decide +kernel)
theorem tw8_94 : Cond.code yX12_whyNotFell cX12_whyNotFell 3 (some .int) ∈ TB := tb_in8 (i := 94) rfl rfl
theorem tw8_91 : Cond.methodLink RX12 398 yX12_whyNotFell ∈ TB := tb_in8 (i := 91) (by decide +kernel) rfl
theorem tw8_93 : Cond.instanceMethod yX12_whyNotFell ∈ TB := tb_in8 (i := 93) (by decide +kernel) rfl
theorem tws_101 : Cond.selects RX12 yX12_whyNotFell yX12_whyNotFell ∈ TB := tb_sel (i := 101) (by decide +kernel)
theorem tw8_187 : Cond.code yX12_isDraw cX12_isDraw 3 (some .boolean) ∈ TB := tb_in8 (i := 187) rfl rfl
theorem tw8_184 : Cond.methodLink RX12 444 yX12_isDraw ∈ TB := tb_in8 (i := 184) (by decide +kernel) rfl
theorem tw8_186 : Cond.instanceMethod yX12_isDraw ∈ TB := tb_in8 (i := 186) (by decide +kernel) rfl
theorem tws_109 : Cond.selects RX12 yX12_isDraw yX12_isDraw ∈ TB := tb_sel (i := 109) (by decide +kernel)
theorem tw5_231 : Cond.fieldLink RX12 91 "MovingExitsModel" "taped" "I" ∈ TB := tb_in5 (i := 231) (by decide +kernel) rfl
theorem tw6_123 : Cond.code yX12_four cX12_four 3 none ∈ TB := tb_in6 (i := 123) rfl rfl
theorem tw6_120 : Cond.methodLink RX12 94 yX12_four ∈ TB := tb_in6 (i := 120) (by decide +kernel) rfl
theorem tw6_122 : Cond.instanceMethod yX12_four ∈ TB := tb_in6 (i := 122) (by decide +kernel) rfl
theorem tws_36 : Cond.selects RX12 yX12_four yX12_four ∈ TB := tb_sel (i := 36) (by decide +kernel)
theorem tw5_239 : Cond.fieldLink RX12 153 "MovingExitsModel" "fault" "I" ∈ TB := tb_in5 (i := 239) (by decide +kernel) rfl
theorem tw5_232 : Cond.fieldLink RX12 98 "MovingExitsModel" "at" "I" ∈ TB := tb_in5 (i := 232) (by decide +kernel) rfl
theorem tw6_151 : Cond.code yX12_isByte cX12_isByte 4 (some .boolean) ∈ TB := tb_in6 (i := 151) rfl rfl
theorem tw6_148 : Cond.methodLink RX12 101 yX12_isByte ∈ TB := tb_in6 (i := 148) (by decide +kernel) rfl
theorem tw6_150 : Cond.instanceMethod yX12_isByte ∈ TB := tb_in6 (i := 150) (by decide +kernel) rfl
theorem tws_40 : Cond.selects RX12 yX12_isByte yX12_isByte ∈ TB := tb_sel (i := 40) (by decide +kernel)
theorem tw5_234 : Cond.fieldLink RX12 105 "MovingExitsModel" "place" "I" ∈ TB := tb_in5 (i := 234) (by decide +kernel) rfl
theorem tw5_235 : Cond.fieldLink RX12 108 "MovingExitsModel" "value" "I" ∈ TB := tb_in5 (i := 235) (by decide +kernel) rfl
theorem tw5_236 : Cond.fieldLink RX12 111 "MovingExitsModel" "word" "J" ∈ TB := tb_in5 (i := 236) (by decide +kernel) rfl
theorem tw5_233 : Cond.fieldLink RX12 115 "MovingExitsModel" "token" "I" ∈ TB := tb_in5 (i := 233) (by decide +kernel) rfl
theorem tw5_237 : Cond.fieldLink RX12 126 "MovingExitsModel" "bad" "I" ∈ TB := tb_in5 (i := 237) (by decide +kernel) rfl
theorem tw5_238 : Cond.fieldLink RX12 129 "MovingExitsModel" "badPlace" "I" ∈ TB := tb_in5 (i := 238) (by decide +kernel) rfl
theorem tw6_147 : Cond.code yX12_next cX12_next 2 none ∈ TB := tb_in6 (i := 147) rfl rfl
theorem tw6_144 : Cond.methodLink RX12 136 yX12_next ∈ TB := tb_in6 (i := 144) (by decide +kernel) rfl
theorem tw6_146 : Cond.instanceMethod yX12_next ∈ TB := tb_in6 (i := 146) (by decide +kernel) rfl
theorem tws_39 : Cond.selects RX12 yX12_next yX12_next ∈ TB := tb_sel (i := 39) (by decide +kernel)
theorem tw7_6 : Cond.code yX12_copyRow cX12_copyRow 5 none ∈ TB := tb_in7 (i := 6) rfl rfl
theorem tw7_4 : Cond.methodLink RX12 230 yX12_copyRow ∈ TB := tb_in7 (i := 4) (by decide +kernel) rfl
theorem tw7_5 : Cond.static yX12_copyRow ∈ TB := tb_in7 (i := 5) (by decide +kernel) rfl
theorem tw6_139 : Cond.code yX12_clears cX12_clears 2 none ∈ TB := tb_in6 (i := 139) rfl rfl
theorem tw6_136 : Cond.methodLink RX12 203 yX12_clears ∈ TB := tb_in6 (i := 136) (by decide +kernel) rfl
theorem tw6_138 : Cond.instanceMethod yX12_clears ∈ TB := tb_in6 (i := 138) (by decide +kernel) rfl
theorem tws_37 : Cond.selects RX12 yX12_clears yX12_clears ∈ TB := tb_sel (i := 37) (by decide +kernel)
theorem tw6_143 : Cond.code yX12_begins cX12_begins 1 none ∈ TB := tb_in6 (i := 143) rfl rfl
theorem tw6_140 : Cond.methodLink RX12 206 yX12_begins ∈ TB := tb_in6 (i := 140) (by decide +kernel) rfl
theorem tw6_142 : Cond.instanceMethod yX12_begins ∈ TB := tb_in6 (i := 142) (by decide +kernel) rfl
theorem tws_38 : Cond.selects RX12 yX12_begins yX12_begins ∈ TB := tb_sel (i := 38) (by decide +kernel)
theorem tw6_160 : Cond.code yX12_isGood cX12_isGood 1 (some .boolean) ∈ TB := tb_in6 (i := 160) rfl rfl
theorem tw6_157 : Cond.methodLink RX12 184 yX12_isGood ∈ TB := tb_in6 (i := 157) (by decide +kernel) rfl
theorem tw6_159 : Cond.instanceMethod yX12_isGood ∈ TB := tb_in6 (i := 159) (by decide +kernel) rfl
theorem tws_41 : Cond.selects RX12 yX12_isGood yX12_isGood ∈ TB := tb_sel (i := 41) (by decide +kernel)
theorem tw6_239 : Cond.code yX12_isOver cX12_isOver 1 none ∈ TB := tb_in6 (i := 239) rfl rfl
theorem tw6_236 : Cond.methodLink RX12 223 yX12_isOver ∈ TB := tb_in6 (i := 236) (by decide +kernel) rfl
theorem tw6_238 : Cond.instanceMethod yX12_isOver ∈ TB := tb_in6 (i := 238) (by decide +kernel) rfl
theorem tws_58 : Cond.selects RX12 yX12_isOver yX12_isOver ∈ TB := tb_sel (i := 58) (by decide +kernel)
theorem tw7_3 : Cond.code yX12_copyHall cX12_copyHall 4 none ∈ TB := tb_in7 (i := 3) rfl rfl
theorem tw7_0 : Cond.methodLink RX12 226 yX12_copyHall ∈ TB := tb_in7 (i := 0) (by decide +kernel) rfl
theorem tw7_2 : Cond.instanceMethod yX12_copyHall ∈ TB := tb_in7 (i := 2) (by decide +kernel) rfl
theorem tws_59 : Cond.selects RX12 yX12_copyHall yX12_copyHall ∈ TB := tb_sel (i := 59) (by decide +kernel)
theorem tw7_95 : Cond.constantLong RX12 242 (4) ∈ TB := tb_in7 (i := 95) (by decide +kernel) rfl
theorem tw8_9 : Cond.code yX12_sitters cX12_sitters 3 (some .int) ∈ TB := tb_in8 (i := 9) rfl rfl
theorem tw8_6 : Cond.methodLink RX12 357 yX12_sitters ∈ TB := tb_in8 (i := 6) (by decide +kernel) rfl
theorem tw8_8 : Cond.instanceMethod yX12_sitters ∈ TB := tb_in8 (i := 8) (by decide +kernel) rfl
theorem tws_92 : Cond.selects RX12 yX12_sitters yX12_sitters ∈ TB := tb_sel (i := 92) (by decide +kernel)
theorem tw8_210 : Cond.constantLong RX12 453 (2) ∈ TB := tb_in8 (i := 210) (by decide +kernel) rfl
theorem lkX5_38 : LkN RX5 38 yX1_init cX1_init 1 0 := ⟨by decide +kernel, tw1_53, tw1_4, tw1_54, ⟨by decide, by decide, by decide⟩⟩
theorem lkX11_9 : LkN RX11 9 yX10_init cX10_init 1 0 := ⟨by decide +kernel, tw1_29, tw1_2, tw1_30, ⟨by decide, by decide, by decide⟩⟩
theorem lkX11_32 : LkN RX11 32 yX5_init cX5_init 1 0 := ⟨by decide +kernel, tw1_47, tw1_3, tw1_48, ⟨by decide, by decide, by decide⟩⟩
theorem lkX11_40 : LkN RX11 40 yX8_init cX8_init 1 0 := ⟨by decide +kernel, tw1_178, tw1_5, tw1_179, ⟨by decide, by decide, by decide⟩⟩
theorem lkX11_43 : LkI RX11 43 yX6_init cX6_init 3 2 := ⟨tw1_198, tw1_199, tw1_6, tw1_200, ⟨by decide, by decide, by decide⟩⟩
theorem lkX11_52 : LkI RX11 52 yX0_init cX0_init 2 1 := ⟨tw1_237, tw1_238, tw1_7, tw1_239, ⟨by decide, by decide, by decide⟩⟩
theorem lkX11_61 : LkI RX11 61 yX2_init cX2_init 2 1 := ⟨tw2_23, tw2_24, tw1_8, tw2_25, ⟨by decide, by decide, by decide⟩⟩
theorem lkX11_70 : LkI RX11 70 yX4_init cX4_init 2 1 := ⟨tw2_36, tw2_37, tw1_9, tw2_38, ⟨by decide, by decide, by decide⟩⟩
theorem lkX11_77 : LkI RX11 77 yX7_init cX7_init 2 1 := ⟨tw2_49, tw2_50, tw1_10, tw2_51, ⟨by decide, by decide, by decide⟩⟩
theorem lkX11_84 : LkN RX11 84 yX9_init cX9_init 1 0 := ⟨by decide +kernel, tw2_102, tw1_11, tw2_103, ⟨by decide, by decide, by decide⟩⟩
theorem lkX11_91 : LkI RX11 91 yX3_init cX3_init 2 1 := ⟨tw2_111, tw2_112, tw1_12, tw2_113, ⟨by decide, by decide, by decide⟩⟩
theorem lkX11_167 : LkS RX11 167 yX11_isAct cX11_isAct 1 (some .boolean) 1 := ⟨tw3_103, tw3_104, tw1_1, tw3_105, ⟨by decide, by decide, by decide⟩⟩
theorem lkX11_351 : LkS RX11 351 yX11_isSlot cX11_isSlot 1 (some .boolean) 1 := ⟨tw4_190, tw4_191, tw1_1, tw4_192, ⟨by decide, by decide, by decide⟩⟩
theorem lkX11_179 : LkV RX11 179 yX5_isTold cX5_isTold 1 (some .boolean) 0 := ⟨tw3_128, tw3_129, tw3_130, tw1_3, tw3_131, ⟨by decide, by decide, by decide⟩⟩
theorem lkX11_383 : LkV RX11 383 yX11_refusalOfRow cX11_refusalOfRow 3 (some .int) 2 := ⟨tw4_186, tw4_188, tws_29, tw1_1, tw4_189, ⟨by decide, by decide, by decide⟩⟩
theorem lkX11_124 : LkV RX11 124 yX5_hasPlace cX5_hasPlace 2 (some .boolean) 1 := ⟨tw3_83, tw3_71, tw3_72, tw1_3, tw3_73, ⟨by decide, by decide, by decide⟩⟩
theorem lkX11_141 : LkV RX11 141 yX5_hasExit cX5_hasExit 2 (some .boolean) 1 := ⟨tw3_88, tw3_56, tw3_57, tw1_3, tw3_58, ⟨by decide, by decide, by decide⟩⟩
theorem lkX11_156 : LkV RX11 156 yX5_hasSeat cX5_hasSeat 3 (some .boolean) 2 := ⟨tw3_93, tw3_94, tw3_95, tw1_3, tw3_96, ⟨by decide, by decide, by decide⟩⟩
theorem lkX11_243 : LkV RX11 243 yX11_refusalOfSeen cX11_refusalOfSeen 3 (some .int) 1 := ⟨tw4_182, tw4_184, tws_28, tw1_1, tw4_185, ⟨by decide, by decide, by decide⟩⟩
theorem lkX11_257 : LkV RX11 257 yX11_refusalOfFell cX11_refusalOfFell 3 (some .int) 1 := ⟨tw5_2, tw5_4, tws_31, tw1_1, tw5_5, ⟨by decide, by decide, by decide⟩⟩
theorem lkX11_226 : LkS RX11 226 yX11_isCountOfActs cX11_isCountOfActs 1 (some .boolean) 1 := ⟨tw4_115, tw4_116, tw1_1, tw4_117, ⟨by decide, by decide, by decide⟩⟩
theorem lkX11_318 : LkV RX11 318 yX11_canDraw cX11_canDraw 3 (some .boolean) 2 := ⟨tw5_132, tw5_134, tws_32, tw1_1, tw5_135, ⟨by decide, by decide, by decide⟩⟩
theorem lkX11_96 : LkV RX11 96 yX10_hasRoom cX10_hasRoom 1 (some .boolean) 0 := ⟨tw2_171, tw2_172, tw2_173, tw1_2, tw2_174, ⟨by decide, by decide, by decide⟩⟩
theorem lkX11_100 : LkV RX11 100 yX10_add cX10_add 3 none 1 := ⟨tw2_175, tw2_176, tw2_177, tw1_2, tw2_178, ⟨by decide, by decide, by decide⟩⟩
theorem lkX6_148 : LkV RX6 148 yX10_byteAt cX10_byteAt 2 (some .int) 1 := ⟨tw2_199, tw2_200, tw2_201, tw1_2, tw2_202, ⟨by decide, by decide, by decide⟩⟩
theorem lkX6_23 : LkV RX6 23 yX5_clear cX5_clear 1 none 0 := ⟨tw2_191, tw2_192, tw2_193, tw1_3, tw2_194, ⟨by decide, by decide, by decide⟩⟩
theorem lkX6_34 : LkV RX6 34 yX6_advance cX6_advance 2 none 0 := ⟨tw2_195, tw2_197, tws_0, tw1_6, tw2_198, ⟨by decide, by decide, by decide⟩⟩
theorem lkX0_38 : LkV RX0 38 yX0_turnScrews cX0_turnScrews 5 none 1 := ⟨tw3_43, tw3_45, tws_11, tw1_7, tw3_46, ⟨by decide, by decide, by decide⟩⟩
theorem lkX11_108 : LkV RX11 108 yX6_tell cX6_tell 4 (some .boolean) 1 := ⟨tw2_187, tw2_188, tw2_189, tw1_6, tw2_190, ⟨by decide, by decide, by decide⟩⟩
theorem lkX11_112 : LkV RX11 112 yX0_play cX0_play 3 none 1 := ⟨tw3_39, tw3_40, tw3_41, tw1_7, tw3_42, ⟨by decide, by decide, by decide⟩⟩
theorem lkX11_358 : LkV RX11 358 yX8_hasRow cX8_hasRow 1 (some .boolean) 0 := ⟨tw4_193, tw4_194, tw4_195, tw1_5, tw4_196, ⟨by decide, by decide, by decide⟩⟩
theorem lkX11_263 : LkS RX11 263 yJ13_bitCount_95d88 cJ13_bitCount_95d88 2 (some .int) 1 := ⟨tw5_22, tw4_60, tw1_15, tw4_61, ⟨by decide, by decide, by decide⟩⟩
theorem lkX11_344 : LkV RX11 344 yX11_slotsWithRow cX11_slotsWithRow 3 (some .int) 0 := ⟨tw5_166, tw5_168, tws_34, tw1_1, tw5_169, ⟨by decide, by decide, by decide⟩⟩
theorem lkX5_75 : LkV RX5 75 yX1_keep cX1_keep 2 none 1 := ⟨tw5_181, tw5_182, tw5_183, tw1_4, tw5_184, ⟨by decide, by decide, by decide⟩⟩
theorem lkX11_348 : LkV RX11 348 yX5_copyFrom cX5_copyFrom 2 none 1 := ⟨tw5_174, tw5_175, tw5_176, tw1_3, tw5_177, ⟨by decide, by decide, by decide⟩⟩
theorem lkX11_354 : LkV RX11 354 yX8_lay cX8_lay 4 none 2 := ⟨tw5_194, tw5_195, tw5_196, tw1_5, tw5_197, ⟨by decide, by decide, by decide⟩⟩
theorem lkX12_79 : LkS RX12 79 yX12_in cX12_in 6 (some .boolean) 3 := ⟨tw6_102, tw6_103, tw1_13, tw6_104, ⟨by decide, by decide, by decide⟩⟩
theorem lkX12_234 : LkV RX12 234 yX12_isRow cX12_isRow 3 (some .boolean) 1 := ⟨tw7_35, tw7_37, tws_64, tw1_13, tw7_38, ⟨by decide, by decide, by decide⟩⟩
theorem lkX12_237 : LkV RX12 237 yX12_isHall cX12_isHall 1 (some .boolean) 0 := ⟨tw7_47, tw7_49, tws_66, tw1_13, tw7_50, ⟨by decide, by decide, by decide⟩⟩
theorem lkX12_273 : LkV RX12 273 yX12_isAct cX12_isAct 2 (some .boolean) 1 := ⟨tw7_43, tw7_45, tws_65, tw1_13, tw7_46, ⟨by decide, by decide, by decide⟩⟩
theorem lkX12_83 : LkS RX12 83 yX12_isSlot cX12_isSlot 1 (some .boolean) 1 := ⟨tw6_98, tw6_99, tw1_13, tw6_100, ⟨by decide, by decide, by decide⟩⟩
theorem lkX12_247 : LkV RX12 247 yX12_isPlace cX12_isPlace 3 (some .boolean) 1 := ⟨tw7_11, tw7_13, tws_60, tw1_13, tw7_14, ⟨by decide, by decide, by decide⟩⟩
theorem lkX12_250 : LkV RX12 250 yX12_isExit cX12_isExit 3 (some .boolean) 1 := ⟨tw7_23, tw7_25, tws_62, tw1_13, tw7_26, ⟨by decide, by decide, by decide⟩⟩
theorem lkX12_253 : LkV RX12 253 yX12_isSeat cX12_isSeat 5 (some .boolean) 2 := ⟨tw7_31, tw7_33, tws_63, tw1_13, tw7_34, ⟨by decide, by decide, by decide⟩⟩
theorem lkX12_386 : LkV RX12 386 yX12_whyNotSeen cX12_whyNotSeen 3 (some .int) 1 := ⟨tw8_63, tw8_65, tws_97, tw1_13, tw8_66, ⟨by decide, by decide, by decide⟩⟩
theorem lkX12_398 : LkV RX12 398 yX12_whyNotFell cX12_whyNotFell 3 (some .int) 1 := ⟨tw8_91, tw8_93, tws_101, tw1_13, tw8_94, ⟨by decide, by decide, by decide⟩⟩
theorem lkX12_444 : LkV RX12 444 yX12_isDraw cX12_isDraw 3 (some .boolean) 2 := ⟨tw8_184, tw8_186, tws_109, tw1_13, tw8_187, ⟨by decide, by decide, by decide⟩⟩
theorem lkX12_94 : LkV RX12 94 yX12_four cX12_four 3 none 1 := ⟨tw6_120, tw6_122, tws_36, tw1_13, tw6_123, ⟨by decide, by decide, by decide⟩⟩
theorem lkX12_101 : LkV RX12 101 yX12_isByte cX12_isByte 4 (some .boolean) 3 := ⟨tw6_148, tw6_150, tws_40, tw1_13, tw6_151, ⟨by decide, by decide, by decide⟩⟩
theorem lkX12_136 : LkV RX12 136 yX12_next cX12_next 2 none 0 := ⟨tw6_144, tw6_146, tws_39, tw1_13, tw6_147, ⟨by decide, by decide, by decide⟩⟩
theorem lkX12_230 : LkS RX12 230 yX12_copyRow cX12_copyRow 5 none 4 := ⟨tw7_4, tw7_5, tw1_13, tw7_6, ⟨by decide, by decide, by decide⟩⟩
theorem lkX12_203 : LkV RX12 203 yX12_clears cX12_clears 2 none 0 := ⟨tw6_136, tw6_138, tws_37, tw1_13, tw6_139, ⟨by decide, by decide, by decide⟩⟩
theorem lkX12_206 : LkV RX12 206 yX12_begins cX12_begins 1 none 0 := ⟨tw6_140, tw6_142, tws_38, tw1_13, tw6_143, ⟨by decide, by decide, by decide⟩⟩
theorem lkX12_184 : LkV RX12 184 yX12_isGood cX12_isGood 1 (some .boolean) 0 := ⟨tw6_157, tw6_159, tws_41, tw1_13, tw6_160, ⟨by decide, by decide, by decide⟩⟩
theorem lkX12_223 : LkV RX12 223 yX12_isOver cX12_isOver 1 none 0 := ⟨tw6_236, tw6_238, tws_58, tw1_13, tw6_239, ⟨by decide, by decide, by decide⟩⟩
theorem lkX12_226 : LkV RX12 226 yX12_copyHall cX12_copyHall 4 none 2 := ⟨tw7_0, tw7_2, tws_59, tw1_13, tw7_3, ⟨by decide, by decide, by decide⟩⟩
theorem lkX12_357 : LkV RX12 357 yX12_sitters cX12_sitters 3 (some .int) 0 := ⟨tw8_6, tw8_8, tws_92, tw1_13, tw8_9, ⟨by decide, by decide, by decide⟩⟩
