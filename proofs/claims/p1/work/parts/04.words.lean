theorem tw1_55 : Cond.methodLink RX1 3 objectInit ∈ TB := tb_in1 (i := 55) (by decide +kernel) rfl
theorem tw1_24 : Cond.instanceMethod objectInit ∈ TB := tb_in1 (i := 24) (by decide +kernel) rfl
theorem tw1_25 : Cond.code objectInit ⟨#[0xb1]⟩ 1 none ∈ TB := tb_in1 (i := 25) rfl rfl
theorem tw1_79 : Cond.arrayClass .int ∈ TB := tb_in1 (i := 79) (by decide +kernel) rfl
theorem tw1_59 : Cond.fieldLink RX1 9 "MovingExits$Changes" "kind" "[I" ∈ TB := tb_in1 (i := 59) (by decide +kernel) rfl
theorem tw1_61 : Cond.fieldLink RX1 15 "MovingExits$Changes" "which" "[I" ∈ TB := tb_in1 (i := 61) (by decide +kernel) rfl
theorem tw1_63 : Cond.fieldLink RX1 18 "MovingExits$Changes" "first" "[I" ∈ TB := tb_in1 (i := 63) (by decide +kernel) rfl
theorem tw1_65 : Cond.fieldLink RX1 21 "MovingExits$Changes" "second" "[I" ∈ TB := tb_in1 (i := 65) (by decide +kernel) rfl
theorem tw1_49 : Cond.methodLink RX5 3 objectInit ∈ TB := tb_in1 (i := 49) (by decide +kernel) rfl
theorem tw1_112 : Cond.fieldLink RX5 9 "MovingExits$Hall" "rowOf" "[I" ∈ TB := tb_in1 (i := 112) (by decide +kernel) rfl
theorem tw1_116 : Cond.fieldLink RX5 15 "MovingExits$Hall" "seatOf" "[I" ∈ TB := tb_in1 (i := 116) (by decide +kernel) rfl
theorem tw1_120 : Cond.fieldLink RX5 18 "MovingExits$Hall" "leadsTo" "[I" ∈ TB := tb_in1 (i := 120) (by decide +kernel) rfl
theorem tw1_124 : Cond.fieldLink RX5 21 "MovingExits$Hall" "then" "[I" ∈ TB := tb_in1 (i := 124) (by decide +kernel) rfl
theorem tw1_127 : Cond.fieldLink RX5 24 "MovingExits$Hall" "firstPlace" "[I" ∈ TB := tb_in1 (i := 127) (by decide +kernel) rfl
theorem tw1_131 : Cond.fieldLink RX5 27 "MovingExits$Hall" "wide" "[I" ∈ TB := tb_in1 (i := 131) (by decide +kernel) rfl
theorem tw1_135 : Cond.fieldLink RX5 30 "MovingExits$Hall" "kingFrom" "[I" ∈ TB := tb_in1 (i := 135) (by decide +kernel) rfl
theorem tw1_138 : Cond.fieldLink RX5 33 "MovingExits$Hall" "kingTo" "[I" ∈ TB := tb_in1 (i := 138) (by decide +kernel) rfl
theorem tw1_50 : Cond.classLink RX5 36 RX1 ∈ TB := tb_in1 (i := 50) (by decide +kernel) rfl
theorem tw1_51 : Cond.instantiable RX1 5 ∈ TB := tb_in1 (i := 51) (by decide +kernel) rfl
theorem tw1_4 : Cond.initialized RX1 ∈ TB := tb_in1 (i := 4) (by decide +kernel) rfl
theorem tw1_54 : Cond.code yX1_init cX1_init 1 none ∈ TB := tb_in1 (i := 54) rfl rfl
theorem tw1_53 : Cond.instanceMethod yX1_init ∈ TB := tb_in1 (i := 53) (by decide +kernel) rfl
theorem tw1_141 : Cond.fieldLink RX5 39 "MovingExits$Hall" "changes" "LMovingExits$Changes;" ∈ TB := tb_in1 (i := 141) (by decide +kernel) rfl
theorem tw1_31 : Cond.methodLink RX10 3 objectInit ∈ TB := tb_in1 (i := 31) (by decide +kernel) rfl
theorem tw1_40 : Cond.arrayClass .byte ∈ TB := tb_in1 (i := 40) (by decide +kernel) rfl
theorem tw1_32 : Cond.fieldLink RX10 9 "MovingExits$Tape" "bytes" "[B" ∈ TB := tb_in1 (i := 32) (by decide +kernel) rfl
theorem tw1_180 : Cond.methodLink RX8 3 objectInit ∈ TB := tb_in1 (i := 180) (by decide +kernel) rfl
theorem tw1_195 : Cond.arrayClass .long ∈ TB := tb_in1 (i := 195) (by decide +kernel) rfl
theorem tw1_181 : Cond.fieldLink RX8 9 "MovingExits$Slot" "numbers" "[J" ∈ TB := tb_in1 (i := 181) (by decide +kernel) rfl
theorem tw1_185 : Cond.fieldLink RX8 15 "MovingExits$Slot" "length" "I" ∈ TB := tb_in1 (i := 185) (by decide +kernel) rfl
theorem tw2_104 : Cond.methodLink RX9 3 objectInit ∈ TB := tb_in2 (i := 104) (by decide +kernel) rfl
theorem tw2_105 : Cond.fieldLink RX9 9 "MovingExits$Stands" "near" "[J" ∈ TB := tb_in2 (i := 105) (by decide +kernel) rfl
theorem tw1_201 : Cond.methodLink RX6 3 objectInit ∈ TB := tb_in1 (i := 201) (by decide +kernel) rfl
theorem tw1_204 : Cond.fieldLink RX6 9 "MovingExits$Reader" "faultPlace" "I" ∈ TB := tb_in1 (i := 204) (by decide +kernel) rfl
theorem tw1_206 : Cond.fieldLink RX6 15 "MovingExits$Reader" "tape" "LMovingExits$Tape;" ∈ TB := tb_in1 (i := 206) (by decide +kernel) rfl
theorem tw1_207 : Cond.fieldLink RX6 19 "MovingExits$Reader" "told" "LMovingExits$Hall;" ∈ TB := tb_in1 (i := 207) (by decide +kernel) rfl
theorem tw2_0 : Cond.methodLink RX0 3 objectInit ∈ TB := tb_in2 (i := 0) (by decide +kernel) rfl
theorem tw2_6 : Cond.fieldLink RX0 9 "MovingExits$Acts" "placeIn" "[I" ∈ TB := tb_in2 (i := 6) (by decide +kernel) rfl
theorem tw1_78 : Cond.arrayClass .boolean ∈ TB := tb_in1 (i := 78) (by decide +kernel) rfl
theorem tw2_7 : Cond.fieldLink RX0 15 "MovingExits$Acts" "isPaced" "[Z" ∈ TB := tb_in2 (i := 7) (by decide +kernel) rfl
theorem tw2_8 : Cond.fieldLink RX0 19 "MovingExits$Acts" "goodSteps" "[I" ∈ TB := tb_in2 (i := 8) (by decide +kernel) rfl
theorem tw2_9 : Cond.fieldLink RX0 22 "MovingExits$Acts" "nearestBehind" "[I" ∈ TB := tb_in2 (i := 9) (by decide +kernel) rfl
theorem tw2_1 : Cond.fieldLink RX0 25 "MovingExits$Acts" "hall" "LMovingExits$Hall;" ∈ TB := tb_in2 (i := 1) (by decide +kernel) rfl
theorem tw2_26 : Cond.methodLink RX2 3 objectInit ∈ TB := tb_in2 (i := 26) (by decide +kernel) rfl
theorem tw2_28 : Cond.fieldLink RX2 9 "MovingExits$Clues" "actsWith" "[I" ∈ TB := tb_in2 (i := 28) (by decide +kernel) rfl
theorem tw2_27 : Cond.fieldLink RX2 15 "MovingExits$Clues" "acts" "LMovingExits$Acts;" ∈ TB := tb_in2 (i := 27) (by decide +kernel) rfl
theorem tw2_39 : Cond.methodLink RX4 3 objectInit ∈ TB := tb_in2 (i := 39) (by decide +kernel) rfl
theorem tw2_41 : Cond.fieldLink RX4 9 "MovingExits$Habits" "goodActs" "[I" ∈ TB := tb_in2 (i := 41) (by decide +kernel) rfl
theorem tw2_40 : Cond.fieldLink RX4 15 "MovingExits$Habits" "acts" "LMovingExits$Acts;" ∈ TB := tb_in2 (i := 40) (by decide +kernel) rfl
theorem tw2_52 : Cond.methodLink RX7 3 objectInit ∈ TB := tb_in2 (i := 52) (by decide +kernel) rfl
theorem tw2_54 : Cond.fieldLink RX7 9 "MovingExits$Rush" "wide" "[I" ∈ TB := tb_in2 (i := 54) (by decide +kernel) rfl
theorem tw2_55 : Cond.fieldLink RX7 15 "MovingExits$Rush" "distance" "[I" ∈ TB := tb_in2 (i := 55) (by decide +kernel) rfl
theorem tw2_56 : Cond.fieldLink RX7 18 "MovingExits$Rush" "beside" "[I" ∈ TB := tb_in2 (i := 56) (by decide +kernel) rfl
theorem tw2_57 : Cond.fieldLink RX7 21 "MovingExits$Rush" "goesTo" "[I" ∈ TB := tb_in2 (i := 57) (by decide +kernel) rfl
theorem tw2_58 : Cond.fieldLink RX7 24 "MovingExits$Rush" "comesFrom" "[I" ∈ TB := tb_in2 (i := 58) (by decide +kernel) rfl
theorem tw2_59 : Cond.fieldLink RX7 27 "MovingExits$Rush" "ended" "[I" ∈ TB := tb_in2 (i := 59) (by decide +kernel) rfl
theorem tw2_60 : Cond.fieldLink RX7 30 "MovingExits$Rush" "parent" "[I" ∈ TB := tb_in2 (i := 60) (by decide +kernel) rfl
theorem tw2_61 : Cond.fieldLink RX7 33 "MovingExits$Rush" "stack" "[I" ∈ TB := tb_in2 (i := 61) (by decide +kernel) rfl
theorem tw2_62 : Cond.fieldLink RX7 36 "MovingExits$Rush" "reached" "[J" ∈ TB := tb_in2 (i := 62) (by decide +kernel) rfl
theorem tw2_53 : Cond.fieldLink RX7 40 "MovingExits$Rush" "acts" "LMovingExits$Acts;" ∈ TB := tb_in2 (i := 53) (by decide +kernel) rfl
theorem tw2_114 : Cond.methodLink RX3 3 objectInit ∈ TB := tb_in2 (i := 114) (by decide +kernel) rfl
theorem tw2_115 : Cond.fieldLink RX3 9 "MovingExits$Crowd" "comers" "[I" ∈ TB := tb_in2 (i := 115) (by decide +kernel) rfl
theorem tw2_119 : Cond.fieldLink RX3 15 "MovingExits$Crowd" "acts" "LMovingExits$Acts;" ∈ TB := tb_in2 (i := 119) (by decide +kernel) rfl
theorem tw1_23 : Cond.methodLink RX11 1 objectInit ∈ TB := tb_in1 (i := 23) (by decide +kernel) rfl
theorem tw1_26 : Cond.classLink RX11 7 RX10 ∈ TB := tb_in1 (i := 26) (by decide +kernel) rfl
theorem tw1_27 : Cond.instantiable RX10 2 ∈ TB := tb_in1 (i := 27) (by decide +kernel) rfl
theorem tw1_2 : Cond.initialized RX10 ∈ TB := tb_in1 (i := 2) (by decide +kernel) rfl
theorem tw1_30 : Cond.code yX10_init cX10_init 1 none ∈ TB := tb_in1 (i := 30) rfl rfl
theorem tw1_29 : Cond.instanceMethod yX10_init ∈ TB := tb_in1 (i := 29) (by decide +kernel) rfl
theorem tw2_127 : Cond.fieldLink RX11 10 "MovingExits" "tape" "LMovingExits$Tape;" ∈ TB := tb_in2 (i := 127) (by decide +kernel) rfl
theorem tw1_41 : Cond.classLink RX11 16 RX5 ∈ TB := tb_in1 (i := 41) (by decide +kernel) rfl
theorem tw2_129 : Cond.fieldLink RX11 18 "MovingExits" "images" "[LMovingExits$Hall;" ∈ TB := tb_in2 (i := 129) (by decide +kernel) rfl
theorem tw2_130 : Cond.fieldLink RX11 22 "MovingExits" "imageMade" "[Z" ∈ TB := tb_in2 (i := 130) (by decide +kernel) rfl
theorem tw1_43 : Cond.classLink RX11 26 RX8 ∈ TB := tb_in1 (i := 43) (by decide +kernel) rfl
theorem tw2_131 : Cond.fieldLink RX11 28 "MovingExits" "slots" "[LMovingExits$Slot;" ∈ TB := tb_in2 (i := 131) (by decide +kernel) rfl
theorem tw1_45 : Cond.instantiable RX5 16 ∈ TB := tb_in1 (i := 45) (by decide +kernel) rfl
theorem tw1_3 : Cond.initialized RX5 ∈ TB := tb_in1 (i := 3) (by decide +kernel) rfl
theorem tw1_48 : Cond.code yX5_init cX5_init 1 none ∈ TB := tb_in1 (i := 48) rfl rfl
theorem tw1_47 : Cond.instanceMethod yX5_init ∈ TB := tb_in1 (i := 47) (by decide +kernel) rfl
theorem tw2_138 : Cond.fieldLink RX11 33 "MovingExits" "hall" "LMovingExits$Hall;" ∈ TB := tb_in2 (i := 138) (by decide +kernel) rfl
theorem tw2_139 : Cond.fieldLink RX11 37 "MovingExits" "draft" "LMovingExits$Hall;" ∈ TB := tb_in2 (i := 139) (by decide +kernel) rfl
theorem tw1_176 : Cond.instantiable RX8 3 ∈ TB := tb_in1 (i := 176) (by decide +kernel) rfl
theorem tw1_5 : Cond.initialized RX8 ∈ TB := tb_in1 (i := 5) (by decide +kernel) rfl
theorem tw1_179 : Cond.code yX8_init cX8_init 1 none ∈ TB := tb_in1 (i := 179) rfl rfl
theorem tw1_178 : Cond.instanceMethod yX8_init ∈ TB := tb_in1 (i := 178) (by decide +kernel) rfl
theorem tw1_196 : Cond.classLink RX11 41 RX6 ∈ TB := tb_in1 (i := 196) (by decide +kernel) rfl
theorem tw1_197 : Cond.instantiable RX6 10 ∈ TB := tb_in1 (i := 197) (by decide +kernel) rfl
theorem tw1_6 : Cond.initialized RX6 ∈ TB := tb_in1 (i := 6) (by decide +kernel) rfl
theorem tw1_200 : Cond.code yX6_init cX6_init 3 none ∈ TB := tb_in1 (i := 200) rfl rfl
theorem tw1_198 : Cond.methodLink RX11 43 yX6_init ∈ TB := tb_in1 (i := 198) (by decide +kernel) rfl
theorem tw1_199 : Cond.instanceMethod yX6_init ∈ TB := tb_in1 (i := 199) (by decide +kernel) rfl
theorem tw2_128 : Cond.fieldLink RX11 46 "MovingExits" "reader" "LMovingExits$Reader;" ∈ TB := tb_in2 (i := 128) (by decide +kernel) rfl
theorem tw1_235 : Cond.classLink RX11 50 RX0 ∈ TB := tb_in1 (i := 235) (by decide +kernel) rfl
theorem tw1_236 : Cond.instantiable RX0 5 ∈ TB := tb_in1 (i := 236) (by decide +kernel) rfl
theorem tw1_7 : Cond.initialized RX0 ∈ TB := tb_in1 (i := 7) (by decide +kernel) rfl
theorem tw1_239 : Cond.code yX0_init cX0_init 2 none ∈ TB := tb_in1 (i := 239) rfl rfl
theorem tw1_237 : Cond.methodLink RX11 52 yX0_init ∈ TB := tb_in1 (i := 237) (by decide +kernel) rfl
theorem tw1_238 : Cond.instanceMethod yX0_init ∈ TB := tb_in1 (i := 238) (by decide +kernel) rfl
theorem tw2_132 : Cond.fieldLink RX11 55 "MovingExits" "acts" "LMovingExits$Acts;" ∈ TB := tb_in2 (i := 132) (by decide +kernel) rfl
theorem tw2_21 : Cond.classLink RX11 59 RX2 ∈ TB := tb_in2 (i := 21) (by decide +kernel) rfl
theorem tw2_22 : Cond.instantiable RX2 2 ∈ TB := tb_in2 (i := 22) (by decide +kernel) rfl
theorem tw1_8 : Cond.initialized RX2 ∈ TB := tb_in1 (i := 8) (by decide +kernel) rfl
theorem tw2_25 : Cond.code yX2_init cX2_init 2 none ∈ TB := tb_in2 (i := 25) rfl rfl
theorem tw2_23 : Cond.methodLink RX11 61 yX2_init ∈ TB := tb_in2 (i := 23) (by decide +kernel) rfl
theorem tw2_24 : Cond.instanceMethod yX2_init ∈ TB := tb_in2 (i := 24) (by decide +kernel) rfl
theorem tw2_133 : Cond.fieldLink RX11 64 "MovingExits" "clues" "LMovingExits$Clues;" ∈ TB := tb_in2 (i := 133) (by decide +kernel) rfl
theorem tw2_34 : Cond.classLink RX11 68 RX4 ∈ TB := tb_in2 (i := 34) (by decide +kernel) rfl
theorem tw2_35 : Cond.instantiable RX4 2 ∈ TB := tb_in2 (i := 35) (by decide +kernel) rfl
theorem tw1_9 : Cond.initialized RX4 ∈ TB := tb_in1 (i := 9) (by decide +kernel) rfl
theorem tw2_38 : Cond.code yX4_init cX4_init 2 none ∈ TB := tb_in2 (i := 38) rfl rfl
theorem tw2_36 : Cond.methodLink RX11 70 yX4_init ∈ TB := tb_in2 (i := 36) (by decide +kernel) rfl
theorem tw2_37 : Cond.instanceMethod yX4_init ∈ TB := tb_in2 (i := 37) (by decide +kernel) rfl
theorem tw2_134 : Cond.fieldLink RX11 71 "MovingExits" "habits" "LMovingExits$Habits;" ∈ TB := tb_in2 (i := 134) (by decide +kernel) rfl
theorem tw2_47 : Cond.classLink RX11 75 RX7 ∈ TB := tb_in2 (i := 47) (by decide +kernel) rfl
theorem tw2_48 : Cond.instantiable RX7 15 ∈ TB := tb_in2 (i := 48) (by decide +kernel) rfl
theorem tw1_10 : Cond.initialized RX7 ∈ TB := tb_in1 (i := 10) (by decide +kernel) rfl
theorem tw2_51 : Cond.code yX7_init cX7_init 2 none ∈ TB := tb_in2 (i := 51) rfl rfl
theorem tw2_49 : Cond.methodLink RX11 77 yX7_init ∈ TB := tb_in2 (i := 49) (by decide +kernel) rfl
theorem tw2_50 : Cond.instanceMethod yX7_init ∈ TB := tb_in2 (i := 50) (by decide +kernel) rfl
theorem tw2_135 : Cond.fieldLink RX11 78 "MovingExits" "rush" "LMovingExits$Rush;" ∈ TB := tb_in2 (i := 135) (by decide +kernel) rfl
theorem tw2_99 : Cond.classLink RX11 82 RX9 ∈ TB := tb_in2 (i := 99) (by decide +kernel) rfl
theorem tw2_100 : Cond.instantiable RX9 1 ∈ TB := tb_in2 (i := 100) (by decide +kernel) rfl
theorem tw1_11 : Cond.initialized RX9 ∈ TB := tb_in1 (i := 11) (by decide +kernel) rfl
theorem tw2_103 : Cond.code yX9_init cX9_init 1 none ∈ TB := tb_in2 (i := 103) rfl rfl
theorem tw2_102 : Cond.instanceMethod yX9_init ∈ TB := tb_in2 (i := 102) (by decide +kernel) rfl
theorem tw2_136 : Cond.fieldLink RX11 85 "MovingExits" "stands" "LMovingExits$Stands;" ∈ TB := tb_in2 (i := 136) (by decide +kernel) rfl
theorem tw2_109 : Cond.classLink RX11 89 RX3 ∈ TB := tb_in2 (i := 109) (by decide +kernel) rfl
theorem tw2_110 : Cond.instantiable RX3 3 ∈ TB := tb_in2 (i := 110) (by decide +kernel) rfl
theorem tw1_12 : Cond.initialized RX3 ∈ TB := tb_in1 (i := 12) (by decide +kernel) rfl
theorem tw2_113 : Cond.code yX3_init cX3_init 2 none ∈ TB := tb_in2 (i := 113) rfl rfl
theorem tw2_111 : Cond.methodLink RX11 91 yX3_init ∈ TB := tb_in2 (i := 111) (by decide +kernel) rfl
theorem tw2_112 : Cond.instanceMethod yX3_init ∈ TB := tb_in2 (i := 112) (by decide +kernel) rfl
theorem tw2_137 : Cond.fieldLink RX11 92 "MovingExits" "crowd" "LMovingExits$Crowd;" ∈ TB := tb_in2 (i := 137) (by decide +kernel) rfl
theorem tw1_80 : Cond.fieldLink RX5 43 "MovingExits$Hall" "lines" "I" ∈ TB := tb_in1 (i := 80) (by decide +kernel) rfl
theorem tw1_103 : Cond.fieldLink RX5 59 "MovingExits$Hall" "exits" "I" ∈ TB := tb_in1 (i := 103) (by decide +kernel) rfl
theorem tw1_97 : Cond.fieldLink RX5 56 "MovingExits$Hall" "places" "I" ∈ TB := tb_in1 (i := 97) (by decide +kernel) rfl
theorem tw1_83 : Cond.fieldLink RX5 47 "MovingExits$Hall" "rows" "I" ∈ TB := tb_in1 (i := 83) (by decide +kernel) rfl
theorem tw5_136 : Cond.constant RX11 382 (2000000000) ∈ TB := tb_in5 (i := 136) (by decide +kernel) rfl
theorem tw1_1 : Cond.initialized RX11 ∈ TB := tb_in1 (i := 1) (by decide +kernel) rfl
theorem tw3_105 : Cond.code yX11_isAct cX11_isAct 1 (some .boolean) ∈ TB := tb_in3 (i := 105) rfl rfl
theorem tw3_103 : Cond.methodLink RX11 167 yX11_isAct ∈ TB := tb_in3 (i := 103) (by decide +kernel) rfl
theorem tw3_104 : Cond.static yX11_isAct ∈ TB := tb_in3 (i := 104) (by decide +kernel) rfl
theorem tw1_108 : Cond.fieldLink RX11 293 "MovingExits$Hall" "exits" "I" ∈ TB := tb_in1 (i := 108) (by decide +kernel) rfl
theorem tw4_192 : Cond.code yX11_isSlot cX11_isSlot 1 (some .boolean) ∈ TB := tb_in4 (i := 192) rfl rfl
theorem tw4_190 : Cond.methodLink RX11 351 yX11_isSlot ∈ TB := tb_in4 (i := 190) (by decide +kernel) rfl
theorem tw4_191 : Cond.static yX11_isSlot ∈ TB := tb_in4 (i := 191) (by decide +kernel) rfl
theorem tw3_131 : Cond.code yX5_isTold cX5_isTold 1 (some .boolean) ∈ TB := tb_in3 (i := 131) rfl rfl
theorem tw3_128 : Cond.methodLink RX11 179 yX5_isTold ∈ TB := tb_in3 (i := 128) (by decide +kernel) rfl
theorem tw3_129 : Cond.instanceMethod yX5_isTold ∈ TB := tb_in3 (i := 129) (by decide +kernel) rfl
theorem tw3_130 : Cond.selects RX5 yX5_isTold yX5_isTold ∈ TB := tb_in3 (i := 130) (by decide +kernel) rfl
theorem tw4_189 : Cond.code yX11_refusalOfRow cX11_refusalOfRow 3 (some .int) ∈ TB := tb_in4 (i := 189) rfl rfl
theorem tw4_186 : Cond.methodLink RX11 383 yX11_refusalOfRow ∈ TB := tb_in4 (i := 186) (by decide +kernel) rfl
theorem tw4_188 : Cond.instanceMethod yX11_refusalOfRow ∈ TB := tb_in4 (i := 188) (by decide +kernel) rfl
theorem tws_29 : Cond.selects RX11 yX11_refusalOfRow yX11_refusalOfRow ∈ TB := tb_sel (i := 29) (by decide +kernel)
theorem tw3_73 : Cond.code yX5_hasPlace cX5_hasPlace 2 (some .boolean) ∈ TB := tb_in3 (i := 73) rfl rfl
theorem tw3_83 : Cond.methodLink RX11 124 yX5_hasPlace ∈ TB := tb_in3 (i := 83) (by decide +kernel) rfl
theorem tw3_71 : Cond.instanceMethod yX5_hasPlace ∈ TB := tb_in3 (i := 71) (by decide +kernel) rfl
theorem tw3_72 : Cond.selects RX5 yX5_hasPlace yX5_hasPlace ∈ TB := tb_in3 (i := 72) (by decide +kernel) rfl
theorem tw3_58 : Cond.code yX5_hasExit cX5_hasExit 2 (some .boolean) ∈ TB := tb_in3 (i := 58) rfl rfl
theorem tw3_88 : Cond.methodLink RX11 141 yX5_hasExit ∈ TB := tb_in3 (i := 88) (by decide +kernel) rfl
theorem tw3_56 : Cond.instanceMethod yX5_hasExit ∈ TB := tb_in3 (i := 56) (by decide +kernel) rfl
theorem tw3_57 : Cond.selects RX5 yX5_hasExit yX5_hasExit ∈ TB := tb_in3 (i := 57) (by decide +kernel) rfl
theorem tw3_96 : Cond.code yX5_hasSeat cX5_hasSeat 3 (some .boolean) ∈ TB := tb_in3 (i := 96) rfl rfl
theorem tw3_93 : Cond.methodLink RX11 156 yX5_hasSeat ∈ TB := tb_in3 (i := 93) (by decide +kernel) rfl
theorem tw3_94 : Cond.instanceMethod yX5_hasSeat ∈ TB := tb_in3 (i := 94) (by decide +kernel) rfl
theorem tw3_95 : Cond.selects RX5 yX5_hasSeat yX5_hasSeat ∈ TB := tb_in3 (i := 95) (by decide +kernel) rfl
theorem tw4_185 : Cond.code yX11_refusalOfSeen cX11_refusalOfSeen 3 (some .int) ∈ TB := tb_in4 (i := 185) rfl rfl
theorem tw4_182 : Cond.methodLink RX11 243 yX11_refusalOfSeen ∈ TB := tb_in4 (i := 182) (by decide +kernel) rfl
theorem tw4_184 : Cond.instanceMethod yX11_refusalOfSeen ∈ TB := tb_in4 (i := 184) (by decide +kernel) rfl
theorem tws_28 : Cond.selects RX11 yX11_refusalOfSeen yX11_refusalOfSeen ∈ TB := tb_sel (i := 28) (by decide +kernel)
theorem tw5_5 : Cond.code yX11_refusalOfFell cX11_refusalOfFell 3 (some .int) ∈ TB := tb_in5 (i := 5) rfl rfl
theorem tw5_2 : Cond.methodLink RX11 257 yX11_refusalOfFell ∈ TB := tb_in5 (i := 2) (by decide +kernel) rfl
theorem tw5_4 : Cond.instanceMethod yX11_refusalOfFell ∈ TB := tb_in5 (i := 4) (by decide +kernel) rfl
theorem tws_31 : Cond.selects RX11 yX11_refusalOfFell yX11_refusalOfFell ∈ TB := tb_sel (i := 31) (by decide +kernel)
theorem tw4_117 : Cond.code yX11_isCountOfActs cX11_isCountOfActs 1 (some .boolean) ∈ TB := tb_in4 (i := 117) rfl rfl
theorem tw4_115 : Cond.methodLink RX11 226 yX11_isCountOfActs ∈ TB := tb_in4 (i := 115) (by decide +kernel) rfl
theorem tw4_116 : Cond.static yX11_isCountOfActs ∈ TB := tb_in4 (i := 116) (by decide +kernel) rfl
theorem tw1_101 : Cond.fieldLink RX11 275 "MovingExits$Hall" "places" "I" ∈ TB := tb_in1 (i := 101) (by decide +kernel) rfl
theorem tw5_135 : Cond.code yX11_canDraw cX11_canDraw 3 (some .boolean) ∈ TB := tb_in5 (i := 135) rfl rfl
theorem tw5_132 : Cond.methodLink RX11 318 yX11_canDraw ∈ TB := tb_in5 (i := 132) (by decide +kernel) rfl
theorem tw5_134 : Cond.instanceMethod yX11_canDraw ∈ TB := tb_in5 (i := 134) (by decide +kernel) rfl
theorem tws_32 : Cond.selects RX11 yX11_canDraw yX11_canDraw ∈ TB := tb_sel (i := 32) (by decide +kernel)
theorem tw1_33 : Cond.fieldLink RX10 15 "MovingExits$Tape" "length" "I" ∈ TB := tb_in1 (i := 33) (by decide +kernel) rfl
theorem tw2_174 : Cond.code yX10_hasRoom cX10_hasRoom 1 (some .boolean) ∈ TB := tb_in2 (i := 174) rfl rfl
theorem tw2_171 : Cond.methodLink RX11 96 yX10_hasRoom ∈ TB := tb_in2 (i := 171) (by decide +kernel) rfl
theorem tw2_172 : Cond.instanceMethod yX10_hasRoom ∈ TB := tb_in2 (i := 172) (by decide +kernel) rfl
theorem tw2_173 : Cond.selects RX10 yX10_hasRoom yX10_hasRoom ∈ TB := tb_in2 (i := 173) (by decide +kernel) rfl
theorem tw2_178 : Cond.code yX10_add cX10_add 3 none ∈ TB := tb_in2 (i := 178) rfl rfl
theorem tw2_175 : Cond.methodLink RX11 100 yX10_add ∈ TB := tb_in2 (i := 175) (by decide +kernel) rfl
theorem tw2_176 : Cond.instanceMethod yX10_add ∈ TB := tb_in2 (i := 176) (by decide +kernel) rfl
theorem tw2_177 : Cond.selects RX10 yX10_add yX10_add ∈ TB := tb_in2 (i := 177) (by decide +kernel) rfl
theorem tw1_34 : Cond.fieldLink RX11 104 "MovingExits$Tape" "length" "I" ∈ TB := tb_in1 (i := 34) (by decide +kernel) rfl
theorem tw1_205 : Cond.fieldLink RX11 121 "MovingExits$Reader" "faultPlace" "I" ∈ TB := tb_in1 (i := 205) (by decide +kernel) rfl
theorem tw1_203 : Cond.fieldLink RX11 118 "MovingExits$Reader" "fault" "I" ∈ TB := tb_in1 (i := 203) (by decide +kernel) rfl
theorem tw1_88 : Cond.fieldLink RX5 50 "MovingExits$Hall" "seats" "I" ∈ TB := tb_in1 (i := 88) (by decide +kernel) rfl
theorem tw1_93 : Cond.fieldLink RX5 53 "MovingExits$Hall" "law" "I" ∈ TB := tb_in1 (i := 93) (by decide +kernel) rfl
theorem tw1_109 : Cond.fieldLink RX5 62 "MovingExits$Hall" "sitters" "J" ∈ TB := tb_in1 (i := 109) (by decide +kernel) rfl
theorem tw1_57 : Cond.fieldLink RX5 66 "MovingExits$Changes" "size" "I" ∈ TB := tb_in1 (i := 57) (by decide +kernel) rfl
theorem tw1_208 : Cond.fieldLink RX6 31 "MovingExits$Reader" "position" "I" ∈ TB := tb_in1 (i := 208) (by decide +kernel) rfl
theorem tw2_202 : Cond.code yX10_byteAt cX10_byteAt 2 (some .int) ∈ TB := tb_in2 (i := 202) rfl rfl
theorem tw2_199 : Cond.methodLink RX6 148 yX10_byteAt ∈ TB := tb_in2 (i := 199) (by decide +kernel) rfl
theorem tw2_200 : Cond.instanceMethod yX10_byteAt ∈ TB := tb_in2 (i := 200) (by decide +kernel) rfl
theorem tw2_201 : Cond.selects RX10 yX10_byteAt yX10_byteAt ∈ TB := tb_in2 (i := 201) (by decide +kernel) rfl
theorem tw1_210 : Cond.fieldLink RX6 84 "MovingExits$Reader" "tokenPlace" "I" ∈ TB := tb_in1 (i := 210) (by decide +kernel) rfl
theorem tw1_209 : Cond.fieldLink RX6 37 "MovingExits$Reader" "token" "I" ∈ TB := tb_in1 (i := 209) (by decide +kernel) rfl
theorem tw2_194 : Cond.code yX5_clear cX5_clear 1 none ∈ TB := tb_in2 (i := 194) rfl rfl
theorem tw2_191 : Cond.methodLink RX6 23 yX5_clear ∈ TB := tb_in2 (i := 191) (by decide +kernel) rfl
theorem tw2_192 : Cond.instanceMethod yX5_clear ∈ TB := tb_in2 (i := 192) (by decide +kernel) rfl
theorem tw2_193 : Cond.selects RX5 yX5_clear yX5_clear ∈ TB := tb_in2 (i := 193) (by decide +kernel) rfl
theorem tw1_202 : Cond.fieldLink RX6 28 "MovingExits$Reader" "fault" "I" ∈ TB := tb_in1 (i := 202) (by decide +kernel) rfl
theorem tw2_198 : Cond.code yX6_advance cX6_advance 2 none ∈ TB := tb_in2 (i := 198) rfl rfl
theorem tw2_195 : Cond.methodLink RX6 34 yX6_advance ∈ TB := tb_in2 (i := 195) (by decide +kernel) rfl
theorem tw2_197 : Cond.instanceMethod yX6_advance ∈ TB := tb_in2 (i := 197) (by decide +kernel) rfl
theorem tws_0 : Cond.selects RX6 yX6_advance yX6_advance ∈ TB := tb_sel (i := 0) (by decide +kernel)
theorem tw1_102 : Cond.fieldLink RX0 29 "MovingExits$Hall" "exits" "I" ∈ TB := tb_in1 (i := 102) (by decide +kernel) rfl
theorem tw3_46 : Cond.code yX0_turnScrews cX0_turnScrews 5 none ∈ TB := tb_in3 (i := 46) rfl rfl
theorem tw3_43 : Cond.methodLink RX0 38 yX0_turnScrews ∈ TB := tb_in3 (i := 43) (by decide +kernel) rfl
theorem tw3_45 : Cond.instanceMethod yX0_turnScrews ∈ TB := tb_in3 (i := 45) (by decide +kernel) rfl
theorem tws_11 : Cond.selects RX0 yX0_turnScrews yX0_turnScrews ∈ TB := tb_sel (i := 11) (by decide +kernel)
theorem tw2_190 : Cond.code yX6_tell cX6_tell 4 (some .boolean) ∈ TB := tb_in2 (i := 190) rfl rfl
theorem tw2_187 : Cond.methodLink RX11 108 yX6_tell ∈ TB := tb_in2 (i := 187) (by decide +kernel) rfl
theorem tw2_188 : Cond.instanceMethod yX6_tell ∈ TB := tb_in2 (i := 188) (by decide +kernel) rfl
theorem tw2_189 : Cond.selects RX6 yX6_tell yX6_tell ∈ TB := tb_in2 (i := 189) (by decide +kernel) rfl
theorem tw3_42 : Cond.code yX0_play cX0_play 3 none ∈ TB := tb_in3 (i := 42) rfl rfl
theorem tw3_39 : Cond.methodLink RX11 112 yX0_play ∈ TB := tb_in3 (i := 39) (by decide +kernel) rfl
theorem tw3_40 : Cond.instanceMethod yX0_play ∈ TB := tb_in3 (i := 40) (by decide +kernel) rfl
theorem tw3_41 : Cond.selects RX0 yX0_play yX0_play ∈ TB := tb_in3 (i := 41) (by decide +kernel) rfl
theorem tw1_82 : Cond.fieldLink RX11 115 "MovingExits$Hall" "lines" "I" ∈ TB := tb_in1 (i := 82) (by decide +kernel) rfl
theorem tw4_62 : Cond.constantLong RJ13 314 (6148914691236517205) ∈ TB := tb_in4 (i := 62) (by decide +kernel) rfl
theorem tw4_63 : Cond.constantLong RJ13 316 (3689348814741910323) ∈ TB := tb_in4 (i := 63) (by decide +kernel) rfl
theorem tw4_64 : Cond.constantLong RJ13 318 (1085102592571150095) ∈ TB := tb_in4 (i := 64) (by decide +kernel) rfl
theorem tw4_196 : Cond.code yX8_hasRow cX8_hasRow 1 (some .boolean) ∈ TB := tb_in4 (i := 196) rfl rfl
theorem tw4_193 : Cond.methodLink RX11 358 yX8_hasRow ∈ TB := tb_in4 (i := 193) (by decide +kernel) rfl
theorem tw4_194 : Cond.instanceMethod yX8_hasRow ∈ TB := tb_in4 (i := 194) (by decide +kernel) rfl
theorem tw4_195 : Cond.selects RX8 yX8_hasRow yX8_hasRow ∈ TB := tb_in4 (i := 195) (by decide +kernel) rfl
theorem tw1_87 : Cond.fieldLink RX11 334 "MovingExits$Hall" "rows" "I" ∈ TB := tb_in1 (i := 87) (by decide +kernel) rfl
theorem tw1_92 : Cond.fieldLink RX11 337 "MovingExits$Hall" "seats" "I" ∈ TB := tb_in1 (i := 92) (by decide +kernel) rfl
theorem tw1_96 : Cond.fieldLink RX11 237 "MovingExits$Hall" "law" "I" ∈ TB := tb_in1 (i := 96) (by decide +kernel) rfl
theorem tw1_111 : Cond.fieldLink RX11 340 "MovingExits$Hall" "sitters" "J" ∈ TB := tb_in1 (i := 111) (by decide +kernel) rfl
theorem tw1_15 : Cond.initialized RJ13 ∈ TB := tb_in1 (i := 15) (by decide +kernel) rfl
theorem tw4_61 : Cond.code yJ13_bitCount_95d88 cJ13_bitCount_95d88 2 (some .int) ∈ TB := tb_in4 (i := 61) rfl rfl
theorem tw5_22 : Cond.methodLink RX11 263 yJ13_bitCount_95d88 ∈ TB := tb_in5 (i := 22) (by decide +kernel) rfl
theorem tw4_60 : Cond.static yJ13_bitCount_95d88 ∈ TB := tb_in4 (i := 60) (by decide +kernel) rfl
theorem tw1_142 : Cond.fieldLink RX11 296 "MovingExits$Hall" "changes" "LMovingExits$Changes;" ∈ TB := tb_in1 (i := 142) (by decide +kernel) rfl
theorem tw1_58 : Cond.fieldLink RX11 315 "MovingExits$Changes" "size" "I" ∈ TB := tb_in1 (i := 58) (by decide +kernel) rfl
theorem tw5_169 : Cond.code yX11_slotsWithRow cX11_slotsWithRow 3 (some .int) ∈ TB := tb_in5 (i := 169) rfl rfl
theorem tw5_166 : Cond.methodLink RX11 344 yX11_slotsWithRow ∈ TB := tb_in5 (i := 166) (by decide +kernel) rfl
theorem tw5_168 : Cond.instanceMethod yX11_slotsWithRow ∈ TB := tb_in5 (i := 168) (by decide +kernel) rfl
theorem tws_34 : Cond.selects RX11 yX11_slotsWithRow yX11_slotsWithRow ∈ TB := tb_sel (i := 34) (by decide +kernel)
theorem tw1_56 : Cond.fieldLink RX1 24 "MovingExits$Changes" "size" "I" ∈ TB := tb_in1 (i := 56) (by decide +kernel) rfl
theorem tw5_185 : Cond.methodLink RX1 32 arraycopyName ∈ TB := tb_in5 (i := 185) (by decide +kernel) rfl
theorem tw5_180 : Cond.native arraycopyName ∈ TB := tb_in5 (i := 180) (by decide +kernel) rfl
theorem tw5_179 : Cond.static arraycopyName ∈ TB := tb_in5 (i := 179) (by decide +kernel) rfl
theorem tw1_17 : Cond.initialized RJ10 ∈ TB := tb_in1 (i := 17) (by decide +kernel) rfl
theorem tw5_178 : Cond.methodLink RX5 69 arraycopyName ∈ TB := tb_in5 (i := 178) (by decide +kernel) rfl
theorem tw5_184 : Cond.code yX1_keep cX1_keep 2 none ∈ TB := tb_in5 (i := 184) rfl rfl
theorem tw5_181 : Cond.methodLink RX5 75 yX1_keep ∈ TB := tb_in5 (i := 181) (by decide +kernel) rfl
theorem tw5_182 : Cond.instanceMethod yX1_keep ∈ TB := tb_in5 (i := 182) (by decide +kernel) rfl
theorem tw5_183 : Cond.selects RX1 yX1_keep yX1_keep ∈ TB := tb_in5 (i := 183) (by decide +kernel) rfl
theorem tw5_177 : Cond.code yX5_copyFrom cX5_copyFrom 2 none ∈ TB := tb_in5 (i := 177) rfl rfl
theorem tw5_174 : Cond.methodLink RX11 348 yX5_copyFrom ∈ TB := tb_in5 (i := 174) (by decide +kernel) rfl
theorem tw5_175 : Cond.instanceMethod yX5_copyFrom ∈ TB := tb_in5 (i := 175) (by decide +kernel) rfl
theorem tw5_176 : Cond.selects RX5 yX5_copyFrom yX5_copyFrom ∈ TB := tb_in5 (i := 176) (by decide +kernel) rfl
theorem tw1_183 : Cond.fieldLink RX8 19 "MovingExits$Slot" "width" "I" ∈ TB := tb_in1 (i := 183) (by decide +kernel) rfl
theorem tw5_197 : Cond.code yX8_lay cX8_lay 4 none ∈ TB := tb_in5 (i := 197) rfl rfl
theorem tw5_194 : Cond.methodLink RX11 354 yX8_lay ∈ TB := tb_in5 (i := 194) (by decide +kernel) rfl
theorem tw5_195 : Cond.instanceMethod yX8_lay ∈ TB := tb_in5 (i := 195) (by decide +kernel) rfl
theorem tw5_196 : Cond.selects RX8 yX8_lay yX8_lay ∈ TB := tb_in5 (i := 196) (by decide +kernel) rfl
theorem tw5_224 : Cond.methodLink RX12 1 objectInit ∈ TB := tb_in5 (i := 224) (by decide +kernel) rfl
theorem tw5_226 : Cond.fieldLink RX12 7 "MovingExitsModel" "width" "[I" ∈ TB := tb_in5 (i := 226) (by decide +kernel) rfl
theorem tw5_227 : Cond.fieldLink RX12 13 "MovingExitsModel" "many" "[I" ∈ TB := tb_in5 (i := 227) (by decide +kernel) rfl
theorem tw5_228 : Cond.fieldLink RX12 16 "MovingExitsModel" "cells" "[J" ∈ TB := tb_in5 (i := 228) (by decide +kernel) rfl
theorem tw5_229 : Cond.fieldLink RX12 20 "MovingExitsModel" "moved" "[J" ∈ TB := tb_in5 (i := 229) (by decide +kernel) rfl
theorem tw5_230 : Cond.fieldLink RX12 23 "MovingExitsModel" "tape" "[B" ∈ TB := tb_in5 (i := 230) (by decide +kernel) rfl
theorem tw6_0 : Cond.fieldLink RX12 27 "MovingExitsModel" "faultPlace" "I" ∈ TB := tb_in6 (i := 0) (by decide +kernel) rfl
theorem tw6_1 : Cond.fieldLink RX12 31 "MovingExitsModel" "lines" "[I" ∈ TB := tb_in6 (i := 1) (by decide +kernel) rfl
theorem tw6_2 : Cond.fieldLink RX12 34 "MovingExitsModel" "has" "[I" ∈ TB := tb_in6 (i := 2) (by decide +kernel) rfl
theorem tw6_3 : Cond.fieldLink RX12 37 "MovingExitsModel" "spot" "[I" ∈ TB := tb_in6 (i := 3) (by decide +kernel) rfl
theorem tw6_4 : Cond.fieldLink RX12 40 "MovingExitsModel" "exit" "[I" ∈ TB := tb_in6 (i := 4) (by decide +kernel) rfl
theorem tw6_5 : Cond.fieldLink RX12 43 "MovingExitsModel" "isSat" "[Z" ∈ TB := tb_in6 (i := 5) (by decide +kernel) rfl
theorem tw6_6 : Cond.fieldLink RX12 47 "MovingExitsModel" "change" "[I" ∈ TB := tb_in6 (i := 6) (by decide +kernel) rfl
theorem tw6_7 : Cond.fieldLink RX12 50 "MovingExitsModel" "isKept" "[Z" ∈ TB := tb_in6 (i := 7) (by decide +kernel) rfl
theorem tw6_8 : Cond.fieldLink RX12 53 "MovingExitsModel" "at0" "[I" ∈ TB := tb_in6 (i := 8) (by decide +kernel) rfl
theorem tw6_9 : Cond.fieldLink RX12 56 "MovingExitsModel" "doors" "[I" ∈ TB := tb_in6 (i := 9) (by decide +kernel) rfl
theorem tw6_10 : Cond.fieldLink RX12 59 "MovingExitsModel" "flow" "[I" ∈ TB := tb_in6 (i := 10) (by decide +kernel) rfl
theorem tw6_11 : Cond.fieldLink RX12 62 "MovingExitsModel" "from" "[I" ∈ TB := tb_in6 (i := 11) (by decide +kernel) rfl
theorem tw6_12 : Cond.fieldLink RX12 65 "MovingExitsModel" "edge" "[I" ∈ TB := tb_in6 (i := 12) (by decide +kernel) rfl
theorem tw6_13 : Cond.fieldLink RX12 68 "MovingExitsModel" "queue" "[I" ∈ TB := tb_in6 (i := 13) (by decide +kernel) rfl
theorem tw6_20 : Cond.fieldLink RX12 71 "MovingExitsModel" "comes" "[I" ∈ TB := tb_in6 (i := 20) (by decide +kernel) rfl
theorem tw6_101 : Cond.constantLong RX12 77 (3) ∈ TB := tb_in6 (i := 101) (by decide +kernel) rfl
theorem tw1_13 : Cond.initialized RX12 ∈ TB := tb_in1 (i := 13) (by decide +kernel) rfl
theorem tw6_104 : Cond.code yX12_in cX12_in 6 (some .boolean) ∈ TB := tb_in6 (i := 104) rfl rfl
theorem tw6_102 : Cond.methodLink RX12 79 yX12_in ∈ TB := tb_in6 (i := 102) (by decide +kernel) rfl
theorem tw6_103 : Cond.static yX12_in ∈ TB := tb_in6 (i := 103) (by decide +kernel) rfl
theorem tw7_38 : Cond.code yX12_isRow cX12_isRow 3 (some .boolean) ∈ TB := tb_in7 (i := 38) rfl rfl
theorem tw7_35 : Cond.methodLink RX12 234 yX12_isRow ∈ TB := tb_in7 (i := 35) (by decide +kernel) rfl
theorem tw7_37 : Cond.instanceMethod yX12_isRow ∈ TB := tb_in7 (i := 37) (by decide +kernel) rfl
theorem tws_64 : Cond.selects RX12 yX12_isRow yX12_isRow ∈ TB := tb_sel (i := 64) (by decide +kernel)
theorem tw7_50 : Cond.code yX12_isHall cX12_isHall 1 (some .boolean) ∈ TB := tb_in7 (i := 50) rfl rfl
theorem tw7_47 : Cond.methodLink RX12 237 yX12_isHall ∈ TB := tb_in7 (i := 47) (by decide +kernel) rfl
theorem tw7_49 : Cond.instanceMethod yX12_isHall ∈ TB := tb_in7 (i := 49) (by decide +kernel) rfl
theorem tws_66 : Cond.selects RX12 yX12_isHall yX12_isHall ∈ TB := tb_sel (i := 66) (by decide +kernel)
theorem tw7_46 : Cond.code yX12_isAct cX12_isAct 2 (some .boolean) ∈ TB := tb_in7 (i := 46) rfl rfl
theorem tw7_43 : Cond.methodLink RX12 273 yX12_isAct ∈ TB := tb_in7 (i := 43) (by decide +kernel) rfl
theorem tw7_45 : Cond.instanceMethod yX12_isAct ∈ TB := tb_in7 (i := 45) (by decide +kernel) rfl
theorem tws_65 : Cond.selects RX12 yX12_isAct yX12_isAct ∈ TB := tb_sel (i := 65) (by decide +kernel)
theorem tw6_100 : Cond.code yX12_isSlot cX12_isSlot 1 (some .boolean) ∈ TB := tb_in6 (i := 100) rfl rfl
theorem tw6_98 : Cond.methodLink RX12 83 yX12_isSlot ∈ TB := tb_in6 (i := 98) (by decide +kernel) rfl
theorem tw6_99 : Cond.static yX12_isSlot ∈ TB := tb_in6 (i := 99) (by decide +kernel) rfl
theorem tw5_225 : Cond.fieldLink RX12 74 "MovingExitsModel" "thrown" "I" ∈ TB := tb_in5 (i := 225) (by decide +kernel) rfl
theorem tw7_14 : Cond.code yX12_isPlace cX12_isPlace 3 (some .boolean) ∈ TB := tb_in7 (i := 14) rfl rfl
theorem tw7_11 : Cond.methodLink RX12 247 yX12_isPlace ∈ TB := tb_in7 (i := 11) (by decide +kernel) rfl
theorem tw7_13 : Cond.instanceMethod yX12_isPlace ∈ TB := tb_in7 (i := 13) (by decide +kernel) rfl
theorem tws_60 : Cond.selects RX12 yX12_isPlace yX12_isPlace ∈ TB := tb_sel (i := 60) (by decide +kernel)
theorem tw7_26 : Cond.code yX12_isExit cX12_isExit 3 (some .boolean) ∈ TB := tb_in7 (i := 26) rfl rfl
theorem tw7_23 : Cond.methodLink RX12 250 yX12_isExit ∈ TB := tb_in7 (i := 23) (by decide +kernel) rfl
theorem tw7_25 : Cond.instanceMethod yX12_isExit ∈ TB := tb_in7 (i := 25) (by decide +kernel) rfl
theorem tws_62 : Cond.selects RX12 yX12_isExit yX12_isExit ∈ TB := tb_sel (i := 62) (by decide +kernel)
theorem tw7_34 : Cond.code yX12_isSeat cX12_isSeat 5 (some .boolean) ∈ TB := tb_in7 (i := 34) rfl rfl
theorem tw7_31 : Cond.methodLink RX12 253 yX12_isSeat ∈ TB := tb_in7 (i := 31) (by decide +kernel) rfl
theorem tw7_33 : Cond.instanceMethod yX12_isSeat ∈ TB := tb_in7 (i := 33) (by decide +kernel) rfl
theorem tws_63 : Cond.selects RX12 yX12_isSeat yX12_isSeat ∈ TB := tb_sel (i := 63) (by decide +kernel)
theorem tw8_66 : Cond.code yX12_whyNotSeen cX12_whyNotSeen 3 (some .int) ∈ TB := tb_in8 (i := 66) rfl rfl
theorem tw8_63 : Cond.methodLink RX12 386 yX12_whyNotSeen ∈ TB := tb_in8 (i := 63) (by decide +kernel) rfl
theorem tw8_65 : Cond.instanceMethod yX12_whyNotSeen ∈ TB := tb_in8 (i := 65) (by decide +kernel) rfl
theorem tws_97 : Cond.selects RX12 yX12_whyNotSeen yX12_whyNotSeen ∈ TB := tb_sel (i := 97) (by decide +kernel)
theorem tw8_94 : Cond.code yX12_whyNotFell cX12_whyNotFell 3 (some .int) ∈ TB := tb_in8 (i := 94) rfl rfl
theorem tw8_91 : Cond.methodLink RX12 398 yX12_whyNotFell ∈ TB := tb_in8 (i := 91) (by decide +kernel) rfl
theorem tw8_93 : Cond.instanceMethod yX12_whyNotFell ∈ TB := tb_in8 (i := 93) (by decide +kernel) rfl
theorem tws_101 : Cond.selects RX12 yX12_whyNotFell yX12_whyNotFell ∈ TB := tb_sel (i := 101) (by decide +kernel)
theorem tw8_187 : Cond.code yX12_isDraw cX12_isDraw 3 (some .boolean) ∈ TB := tb_in8 (i := 187) rfl rfl
theorem tw8_184 : Cond.methodLink RX12 444 yX12_isDraw ∈ TB := tb_in8 (i := 184) (by decide +kernel) rfl
theorem tw8_186 : Cond.instanceMethod yX12_isDraw ∈ TB := tb_in8 (i := 186) (by decide +kernel) rfl
theorem tws_109 : Cond.selects RX12 yX12_isDraw yX12_isDraw ∈ TB := tb_sel (i := 109) (by decide +kernel)
theorem tw5_231 : Cond.fieldLink RX12 91 "MovingExitsModel" "taped" "I" ∈ TB := tb_in5 (i := 231) (by decide +kernel) rfl
theorem tw6_123 : Cond.code yX12_four cX12_four 3 none ∈ TB := tb_in6 (i := 123) rfl rfl
theorem tw6_120 : Cond.methodLink RX12 94 yX12_four ∈ TB := tb_in6 (i := 120) (by decide +kernel) rfl
theorem tw6_122 : Cond.instanceMethod yX12_four ∈ TB := tb_in6 (i := 122) (by decide +kernel) rfl
theorem tws_36 : Cond.selects RX12 yX12_four yX12_four ∈ TB := tb_sel (i := 36) (by decide +kernel)
theorem tw5_239 : Cond.fieldLink RX12 153 "MovingExitsModel" "fault" "I" ∈ TB := tb_in5 (i := 239) (by decide +kernel) rfl
theorem tw5_232 : Cond.fieldLink RX12 98 "MovingExitsModel" "at" "I" ∈ TB := tb_in5 (i := 232) (by decide +kernel) rfl
theorem tw6_151 : Cond.code yX12_isByte cX12_isByte 4 (some .boolean) ∈ TB := tb_in6 (i := 151) rfl rfl
theorem tw6_148 : Cond.methodLink RX12 101 yX12_isByte ∈ TB := tb_in6 (i := 148) (by decide +kernel) rfl
theorem tw6_150 : Cond.instanceMethod yX12_isByte ∈ TB := tb_in6 (i := 150) (by decide +kernel) rfl
theorem tws_40 : Cond.selects RX12 yX12_isByte yX12_isByte ∈ TB := tb_sel (i := 40) (by decide +kernel)
theorem tw5_234 : Cond.fieldLink RX12 105 "MovingExitsModel" "place" "I" ∈ TB := tb_in5 (i := 234) (by decide +kernel) rfl
theorem tw5_235 : Cond.fieldLink RX12 108 "MovingExitsModel" "value" "I" ∈ TB := tb_in5 (i := 235) (by decide +kernel) rfl
theorem tw5_236 : Cond.fieldLink RX12 111 "MovingExitsModel" "word" "J" ∈ TB := tb_in5 (i := 236) (by decide +kernel) rfl
theorem tw5_233 : Cond.fieldLink RX12 115 "MovingExitsModel" "token" "I" ∈ TB := tb_in5 (i := 233) (by decide +kernel) rfl
theorem tw5_237 : Cond.fieldLink RX12 126 "MovingExitsModel" "bad" "I" ∈ TB := tb_in5 (i := 237) (by decide +kernel) rfl
theorem tw5_238 : Cond.fieldLink RX12 129 "MovingExitsModel" "badPlace" "I" ∈ TB := tb_in5 (i := 238) (by decide +kernel) rfl
theorem tw6_147 : Cond.code yX12_next cX12_next 2 none ∈ TB := tb_in6 (i := 147) rfl rfl
theorem tw6_144 : Cond.methodLink RX12 136 yX12_next ∈ TB := tb_in6 (i := 144) (by decide +kernel) rfl
theorem tw6_146 : Cond.instanceMethod yX12_next ∈ TB := tb_in6 (i := 146) (by decide +kernel) rfl
theorem tws_39 : Cond.selects RX12 yX12_next yX12_next ∈ TB := tb_sel (i := 39) (by decide +kernel)
theorem tw7_6 : Cond.code yX12_copyRow cX12_copyRow 5 none ∈ TB := tb_in7 (i := 6) rfl rfl
theorem tw7_4 : Cond.methodLink RX12 230 yX12_copyRow ∈ TB := tb_in7 (i := 4) (by decide +kernel) rfl
theorem tw7_5 : Cond.static yX12_copyRow ∈ TB := tb_in7 (i := 5) (by decide +kernel) rfl
theorem tw6_139 : Cond.code yX12_clears cX12_clears 2 none ∈ TB := tb_in6 (i := 139) rfl rfl
theorem tw6_136 : Cond.methodLink RX12 203 yX12_clears ∈ TB := tb_in6 (i := 136) (by decide +kernel) rfl
theorem tw6_138 : Cond.instanceMethod yX12_clears ∈ TB := tb_in6 (i := 138) (by decide +kernel) rfl
theorem tws_37 : Cond.selects RX12 yX12_clears yX12_clears ∈ TB := tb_sel (i := 37) (by decide +kernel)
theorem tw6_143 : Cond.code yX12_begins cX12_begins 1 none ∈ TB := tb_in6 (i := 143) rfl rfl
theorem tw6_140 : Cond.methodLink RX12 206 yX12_begins ∈ TB := tb_in6 (i := 140) (by decide +kernel) rfl
theorem tw6_142 : Cond.instanceMethod yX12_begins ∈ TB := tb_in6 (i := 142) (by decide +kernel) rfl
theorem tws_38 : Cond.selects RX12 yX12_begins yX12_begins ∈ TB := tb_sel (i := 38) (by decide +kernel)
theorem tw6_160 : Cond.code yX12_isGood cX12_isGood 1 (some .boolean) ∈ TB := tb_in6 (i := 160) rfl rfl
theorem tw6_157 : Cond.methodLink RX12 184 yX12_isGood ∈ TB := tb_in6 (i := 157) (by decide +kernel) rfl
theorem tw6_159 : Cond.instanceMethod yX12_isGood ∈ TB := tb_in6 (i := 159) (by decide +kernel) rfl
theorem tws_41 : Cond.selects RX12 yX12_isGood yX12_isGood ∈ TB := tb_sel (i := 41) (by decide +kernel)
theorem tw6_239 : Cond.code yX12_isOver cX12_isOver 1 none ∈ TB := tb_in6 (i := 239) rfl rfl
theorem tw6_236 : Cond.methodLink RX12 223 yX12_isOver ∈ TB := tb_in6 (i := 236) (by decide +kernel) rfl
theorem tw6_238 : Cond.instanceMethod yX12_isOver ∈ TB := tb_in6 (i := 238) (by decide +kernel) rfl
theorem tws_58 : Cond.selects RX12 yX12_isOver yX12_isOver ∈ TB := tb_sel (i := 58) (by decide +kernel)
theorem tw7_3 : Cond.code yX12_copyHall cX12_copyHall 4 none ∈ TB := tb_in7 (i := 3) rfl rfl
theorem tw7_0 : Cond.methodLink RX12 226 yX12_copyHall ∈ TB := tb_in7 (i := 0) (by decide +kernel) rfl
theorem tw7_2 : Cond.instanceMethod yX12_copyHall ∈ TB := tb_in7 (i := 2) (by decide +kernel) rfl
theorem tws_59 : Cond.selects RX12 yX12_copyHall yX12_copyHall ∈ TB := tb_sel (i := 59) (by decide +kernel)
theorem tw7_95 : Cond.constantLong RX12 242 (4) ∈ TB := tb_in7 (i := 95) (by decide +kernel) rfl
theorem tw8_9 : Cond.code yX12_sitters cX12_sitters 3 (some .int) ∈ TB := tb_in8 (i := 9) rfl rfl
theorem tw8_6 : Cond.methodLink RX12 357 yX12_sitters ∈ TB := tb_in8 (i := 6) (by decide +kernel) rfl
theorem tw8_8 : Cond.instanceMethod yX12_sitters ∈ TB := tb_in8 (i := 8) (by decide +kernel) rfl
theorem tws_92 : Cond.selects RX12 yX12_sitters yX12_sitters ∈ TB := tb_sel (i := 92) (by decide +kernel)
theorem tw8_210 : Cond.constantLong RX12 453 (2) ∈ TB := tb_in8 (i := 210) (by decide +kernel) rfl
theorem tw2_170 : Cond.code yX11_feed cX11_feed 6 (some .int) ∈ TB := tb_in2 (i := 170) rfl rfl
theorem tw2_167 : Cond.methodLink RL 13 yX11_feed ∈ TB := tb_in2 (i := 167) (by decide +kernel) rfl
theorem tw2_168 : Cond.instanceMethod yX11_feed ∈ TB := tb_in2 (i := 168) (by decide +kernel) rfl
theorem tw2_169 : Cond.selects RX11 yX11_feed yX11_feed ∈ TB := tb_in2 (i := 169) (by decide +kernel) rfl
theorem tw6_119 : Cond.code yX12_feed cX12_feed 6 (some .int) ∈ TB := tb_in6 (i := 119) rfl rfl
theorem tw6_116 : Cond.methodLink RL 17 yX12_feed ∈ TB := tb_in6 (i := 116) (by decide +kernel) rfl
theorem tw6_117 : Cond.instanceMethod yX12_feed ∈ TB := tb_in6 (i := 117) (by decide +kernel) rfl
theorem tw6_118 : Cond.selects RX12 yX12_feed yX12_feed ∈ TB := tb_in6 (i := 118) (by decide +kernel) rfl
theorem tw2_182 : Cond.code yX11_end cX11_end 2 (some .int) ∈ TB := tb_in2 (i := 182) rfl rfl
theorem tw2_179 : Cond.methodLink RL 18 yX11_end ∈ TB := tb_in2 (i := 179) (by decide +kernel) rfl
theorem tw2_180 : Cond.instanceMethod yX11_end ∈ TB := tb_in2 (i := 180) (by decide +kernel) rfl
theorem tw2_181 : Cond.selects RX11 yX11_end yX11_end ∈ TB := tb_in2 (i := 181) (by decide +kernel) rfl
theorem tw6_127 : Cond.code yX12_end cX12_end 2 (some .int) ∈ TB := tb_in6 (i := 127) rfl rfl
theorem tw6_124 : Cond.methodLink RL 22 yX12_end ∈ TB := tb_in6 (i := 124) (by decide +kernel) rfl
theorem tw6_125 : Cond.instanceMethod yX12_end ∈ TB := tb_in6 (i := 125) (by decide +kernel) rfl
theorem tw6_126 : Cond.selects RX12 yX12_end yX12_end ∈ TB := tb_in6 (i := 126) (by decide +kernel) rfl
theorem tw2_186 : Cond.code yX11_hall cX11_hall 2 (some .int) ∈ TB := tb_in2 (i := 186) rfl rfl
theorem tw2_183 : Cond.methodLink RL 23 yX11_hall ∈ TB := tb_in2 (i := 183) (by decide +kernel) rfl
theorem tw2_184 : Cond.instanceMethod yX11_hall ∈ TB := tb_in2 (i := 184) (by decide +kernel) rfl
theorem tw2_185 : Cond.selects RX11 yX11_hall yX11_hall ∈ TB := tb_in2 (i := 185) (by decide +kernel) rfl
theorem tw6_135 : Cond.code yX12_hall cX12_hall 1 (some .int) ∈ TB := tb_in6 (i := 135) rfl rfl
theorem tw6_132 : Cond.methodLink RL 27 yX12_hall ∈ TB := tb_in6 (i := 132) (by decide +kernel) rfl
theorem tw6_133 : Cond.instanceMethod yX12_hall ∈ TB := tb_in6 (i := 133) (by decide +kernel) rfl
theorem tw6_134 : Cond.selects RX12 yX12_hall yX12_hall ∈ TB := tb_in6 (i := 134) (by decide +kernel) rfl
theorem tw3_78 : Cond.code yX11_fault cX11_fault 2 (some .int) ∈ TB := tb_in3 (i := 78) rfl rfl
theorem tw3_75 : Cond.methodLink RL 28 yX11_fault ∈ TB := tb_in3 (i := 75) (by decide +kernel) rfl
theorem tw3_76 : Cond.instanceMethod yX11_fault ∈ TB := tb_in3 (i := 76) (by decide +kernel) rfl
theorem tw3_77 : Cond.selects RX11 yX11_fault yX11_fault ∈ TB := tb_in3 (i := 77) (by decide +kernel) rfl
theorem tw6_131 : Cond.code yX12_fault cX12_fault 2 (some .int) ∈ TB := tb_in6 (i := 131) rfl rfl
theorem tw6_128 : Cond.methodLink RL 31 yX12_fault ∈ TB := tb_in6 (i := 128) (by decide +kernel) rfl
theorem tw6_129 : Cond.instanceMethod yX12_fault ∈ TB := tb_in6 (i := 129) (by decide +kernel) rfl
theorem tw6_130 : Cond.selects RX12 yX12_fault yX12_fault ∈ TB := tb_in6 (i := 130) (by decide +kernel) rfl
theorem tw3_82 : Cond.code yX11_place cX11_place 3 (some .int) ∈ TB := tb_in3 (i := 82) rfl rfl
theorem tw3_79 : Cond.methodLink RL 32 yX11_place ∈ TB := tb_in3 (i := 79) (by decide +kernel) rfl
theorem tw3_80 : Cond.instanceMethod yX11_place ∈ TB := tb_in3 (i := 80) (by decide +kernel) rfl
theorem tw3_81 : Cond.selects RX11 yX11_place yX11_place ∈ TB := tb_in3 (i := 81) (by decide +kernel) rfl
theorem tw7_10 : Cond.code yX12_place cX12_place 3 (some .int) ∈ TB := tb_in7 (i := 10) rfl rfl
theorem tw7_7 : Cond.methodLink RL 36 yX12_place ∈ TB := tb_in7 (i := 7) (by decide +kernel) rfl
theorem tw7_8 : Cond.instanceMethod yX12_place ∈ TB := tb_in7 (i := 8) (by decide +kernel) rfl
theorem tw7_9 : Cond.selects RX12 yX12_place yX12_place ∈ TB := tb_in7 (i := 9) (by decide +kernel) rfl
theorem tw3_87 : Cond.code yX11_exit cX11_exit 3 (some .int) ∈ TB := tb_in3 (i := 87) rfl rfl
theorem tw3_84 : Cond.methodLink RL 37 yX11_exit ∈ TB := tb_in3 (i := 84) (by decide +kernel) rfl
theorem tw3_85 : Cond.instanceMethod yX11_exit ∈ TB := tb_in3 (i := 85) (by decide +kernel) rfl
theorem tw3_86 : Cond.selects RX11 yX11_exit yX11_exit ∈ TB := tb_in3 (i := 86) (by decide +kernel) rfl
theorem tw7_22 : Cond.code yX12_exit cX12_exit 3 (some .int) ∈ TB := tb_in7 (i := 22) rfl rfl
theorem tw7_19 : Cond.methodLink RL 40 yX12_exit ∈ TB := tb_in7 (i := 19) (by decide +kernel) rfl
theorem tw7_20 : Cond.instanceMethod yX12_exit ∈ TB := tb_in7 (i := 20) (by decide +kernel) rfl
theorem tw7_21 : Cond.selects RX12 yX12_exit yX12_exit ∈ TB := tb_in7 (i := 21) (by decide +kernel) rfl
theorem tw3_92 : Cond.code yX11_sits cX11_sits 3 (some .int) ∈ TB := tb_in3 (i := 92) rfl rfl
theorem tw3_89 : Cond.methodLink RL 41 yX11_sits ∈ TB := tb_in3 (i := 89) (by decide +kernel) rfl
theorem tw3_90 : Cond.instanceMethod yX11_sits ∈ TB := tb_in3 (i := 90) (by decide +kernel) rfl
theorem tw3_91 : Cond.selects RX11 yX11_sits yX11_sits ∈ TB := tb_in3 (i := 91) (by decide +kernel) rfl
theorem tw7_30 : Cond.code yX12_sits cX12_sits 3 (some .int) ∈ TB := tb_in7 (i := 30) rfl rfl
theorem tw7_27 : Cond.methodLink RL 44 yX12_sits ∈ TB := tb_in7 (i := 27) (by decide +kernel) rfl
theorem tw7_28 : Cond.instanceMethod yX12_sits ∈ TB := tb_in7 (i := 28) (by decide +kernel) rfl
theorem tw7_29 : Cond.selects RX12 yX12_sits yX12_sits ∈ TB := tb_in7 (i := 29) (by decide +kernel) rfl
theorem tw3_102 : Cond.code yX11_at cX11_at 3 (some .int) ∈ TB := tb_in3 (i := 102) rfl rfl
theorem tw3_99 : Cond.methodLink RL 45 yX11_at ∈ TB := tb_in3 (i := 99) (by decide +kernel) rfl
theorem tw3_100 : Cond.instanceMethod yX11_at ∈ TB := tb_in3 (i := 100) (by decide +kernel) rfl
theorem tw3_101 : Cond.selects RX11 yX11_at yX11_at ∈ TB := tb_in3 (i := 101) (by decide +kernel) rfl
theorem tw7_42 : Cond.code yX12_at cX12_at 3 (some .int) ∈ TB := tb_in7 (i := 42) rfl rfl
theorem tw7_39 : Cond.methodLink RL 48 yX12_at ∈ TB := tb_in7 (i := 39) (by decide +kernel) rfl
theorem tw7_40 : Cond.instanceMethod yX12_at ∈ TB := tb_in7 (i := 40) (by decide +kernel) rfl
theorem tw7_41 : Cond.selects RX12 yX12_at yX12_at ∈ TB := tb_in7 (i := 41) (by decide +kernel) rfl
theorem tw3_110 : Cond.code yX11_who cX11_who 3 (some .int) ∈ TB := tb_in3 (i := 110) rfl rfl
theorem tw3_107 : Cond.methodLink RL 49 yX11_who ∈ TB := tb_in3 (i := 107) (by decide +kernel) rfl
theorem tw3_108 : Cond.instanceMethod yX11_who ∈ TB := tb_in3 (i := 108) (by decide +kernel) rfl
theorem tw3_109 : Cond.selects RX11 yX11_who yX11_who ∈ TB := tb_in3 (i := 109) (by decide +kernel) rfl
theorem tw7_75 : Cond.code yX12_who cX12_who 3 (some .int) ∈ TB := tb_in7 (i := 75) rfl rfl
theorem tw7_72 : Cond.methodLink RL 52 yX12_who ∈ TB := tb_in7 (i := 72) (by decide +kernel) rfl
theorem tw7_73 : Cond.instanceMethod yX12_who ∈ TB := tb_in7 (i := 73) (by decide +kernel) rfl
theorem tw7_74 : Cond.selects RX12 yX12_who yX12_who ∈ TB := tb_in7 (i := 74) (by decide +kernel) rfl
theorem tw3_118 : Cond.code yX11_behind cX11_behind 3 (some .int) ∈ TB := tb_in3 (i := 118) rfl rfl
theorem tw3_115 : Cond.methodLink RL 53 yX11_behind ∈ TB := tb_in3 (i := 115) (by decide +kernel) rfl
theorem tw3_116 : Cond.instanceMethod yX11_behind ∈ TB := tb_in3 (i := 116) (by decide +kernel) rfl
theorem tw3_117 : Cond.selects RX11 yX11_behind yX11_behind ∈ TB := tb_in3 (i := 117) (by decide +kernel) rfl
theorem tw7_83 : Cond.code yX12_behind cX12_behind 3 (some .int) ∈ TB := tb_in7 (i := 83) rfl rfl
theorem tw7_80 : Cond.methodLink RL 56 yX12_behind ∈ TB := tb_in7 (i := 80) (by decide +kernel) rfl
theorem tw7_81 : Cond.instanceMethod yX12_behind ∈ TB := tb_in7 (i := 81) (by decide +kernel) rfl
theorem tw7_82 : Cond.selects RX12 yX12_behind yX12_behind ∈ TB := tb_in7 (i := 82) (by decide +kernel) rfl
theorem tw3_127 : Cond.code yX11_leads cX11_leads 3 (some .int) ∈ TB := tb_in3 (i := 127) rfl rfl
theorem tw3_124 : Cond.methodLink RL 57 yX11_leads ∈ TB := tb_in3 (i := 124) (by decide +kernel) rfl
theorem tw3_125 : Cond.instanceMethod yX11_leads ∈ TB := tb_in3 (i := 125) (by decide +kernel) rfl
theorem tw3_126 : Cond.selects RX11 yX11_leads yX11_leads ∈ TB := tb_in3 (i := 126) (by decide +kernel) rfl
theorem tw7_91 : Cond.code yX12_leads cX12_leads 5 (some .int) ∈ TB := tb_in7 (i := 91) rfl rfl
theorem tw7_88 : Cond.methodLink RL 60 yX12_leads ∈ TB := tb_in7 (i := 88) (by decide +kernel) rfl
theorem tw7_89 : Cond.instanceMethod yX12_leads ∈ TB := tb_in7 (i := 89) (by decide +kernel) rfl
theorem tw7_90 : Cond.selects RX12 yX12_leads yX12_leads ∈ TB := tb_in7 (i := 90) (by decide +kernel) rfl
theorem tw3_143 : Cond.code yX11_doubles cX11_doubles 2 (some .int) ∈ TB := tb_in3 (i := 143) rfl rfl
theorem tw3_140 : Cond.methodLink RL 61 yX11_doubles ∈ TB := tb_in3 (i := 140) (by decide +kernel) rfl
theorem tw3_141 : Cond.instanceMethod yX11_doubles ∈ TB := tb_in3 (i := 141) (by decide +kernel) rfl
theorem tw3_142 : Cond.selects RX11 yX11_doubles yX11_doubles ∈ TB := tb_in3 (i := 142) (by decide +kernel) rfl
theorem tw7_99 : Cond.code yX12_doubles cX12_doubles 2 (some .int) ∈ TB := tb_in7 (i := 99) rfl rfl
theorem tw7_96 : Cond.methodLink RL 64 yX12_doubles ∈ TB := tb_in7 (i := 96) (by decide +kernel) rfl
theorem tw7_97 : Cond.instanceMethod yX12_doubles ∈ TB := tb_in7 (i := 97) (by decide +kernel) rfl
theorem tw7_98 : Cond.selects RX12 yX12_doubles yX12_doubles ∈ TB := tb_in7 (i := 98) (by decide +kernel) rfl
theorem tw3_151 : Cond.code yX11_slip cX11_slip 2 (some .int) ∈ TB := tb_in3 (i := 151) rfl rfl
theorem tw3_148 : Cond.methodLink RL 65 yX11_slip ∈ TB := tb_in3 (i := 148) (by decide +kernel) rfl
theorem tw3_149 : Cond.instanceMethod yX11_slip ∈ TB := tb_in3 (i := 149) (by decide +kernel) rfl
theorem tw3_150 : Cond.selects RX11 yX11_slip yX11_slip ∈ TB := tb_in3 (i := 150) (by decide +kernel) rfl
theorem tw7_110 : Cond.code yX12_slip cX12_slip 2 (some .int) ∈ TB := tb_in7 (i := 110) rfl rfl
theorem tw7_107 : Cond.methodLink RL 68 yX12_slip ∈ TB := tb_in7 (i := 107) (by decide +kernel) rfl
theorem tw7_108 : Cond.instanceMethod yX12_slip ∈ TB := tb_in7 (i := 108) (by decide +kernel) rfl
theorem tw7_109 : Cond.selects RX12 yX12_slip yX12_slip ∈ TB := tb_in7 (i := 109) (by decide +kernel) rfl
theorem tw3_155 : Cond.code yX11_round cX11_round 2 (some .int) ∈ TB := tb_in3 (i := 155) rfl rfl
theorem tw3_152 : Cond.methodLink RL 69 yX11_round ∈ TB := tb_in3 (i := 152) (by decide +kernel) rfl
theorem tw3_153 : Cond.instanceMethod yX11_round ∈ TB := tb_in3 (i := 153) (by decide +kernel) rfl
theorem tw3_154 : Cond.selects RX11 yX11_round yX11_round ∈ TB := tb_in3 (i := 154) (by decide +kernel) rfl
theorem tw7_114 : Cond.code yX12_round cX12_round 2 (some .int) ∈ TB := tb_in7 (i := 114) rfl rfl
theorem tw7_111 : Cond.methodLink RL 72 yX12_round ∈ TB := tb_in7 (i := 111) (by decide +kernel) rfl
theorem tw7_112 : Cond.instanceMethod yX12_round ∈ TB := tb_in7 (i := 112) (by decide +kernel) rfl
theorem tw7_113 : Cond.selects RX12 yX12_round yX12_round ∈ TB := tb_in7 (i := 113) (by decide +kernel) rfl
theorem tw3_163 : Cond.code yX11_again cX11_again 2 (some .int) ∈ TB := tb_in3 (i := 163) rfl rfl
theorem tw3_160 : Cond.methodLink RL 73 yX11_again ∈ TB := tb_in3 (i := 160) (by decide +kernel) rfl
theorem tw3_161 : Cond.instanceMethod yX11_again ∈ TB := tb_in3 (i := 161) (by decide +kernel) rfl
theorem tw3_162 : Cond.selects RX11 yX11_again yX11_again ∈ TB := tb_in3 (i := 162) (by decide +kernel) rfl
theorem tw7_122 : Cond.code yX12_again cX12_again 3 (some .int) ∈ TB := tb_in7 (i := 122) rfl rfl
theorem tw7_119 : Cond.methodLink RL 76 yX12_again ∈ TB := tb_in7 (i := 119) (by decide +kernel) rfl
theorem tw7_120 : Cond.instanceMethod yX12_again ∈ TB := tb_in7 (i := 120) (by decide +kernel) rfl
theorem tw7_121 : Cond.selects RX12 yX12_again yX12_again ∈ TB := tb_in7 (i := 121) (by decide +kernel) rfl
theorem tw3_172 : Cond.code yX11_next cX11_next 5 (some .int) ∈ TB := tb_in3 (i := 172) rfl rfl
theorem tw3_169 : Cond.methodLink RL 77 yX11_next ∈ TB := tb_in3 (i := 169) (by decide +kernel) rfl
theorem tw3_170 : Cond.instanceMethod yX11_next ∈ TB := tb_in3 (i := 170) (by decide +kernel) rfl
theorem tw3_171 : Cond.selects RX11 yX11_next yX11_next ∈ TB := tb_in3 (i := 171) (by decide +kernel) rfl
theorem tw7_126 : Cond.code yX12_next_ cX12_next_ 5 (some .int) ∈ TB := tb_in7 (i := 126) rfl rfl
theorem tw7_123 : Cond.methodLink RL 81 yX12_next_ ∈ TB := tb_in7 (i := 123) (by decide +kernel) rfl
theorem tw7_124 : Cond.instanceMethod yX12_next_ ∈ TB := tb_in7 (i := 124) (by decide +kernel) rfl
theorem tw7_125 : Cond.selects RX12 yX12_next_ yX12_next_ ∈ TB := tb_in7 (i := 125) (by decide +kernel) rfl
theorem tw3_176 : Cond.code yX11_sees cX11_sees 4 (some .int) ∈ TB := tb_in3 (i := 176) rfl rfl
theorem tw3_173 : Cond.methodLink RL 82 yX11_sees ∈ TB := tb_in3 (i := 173) (by decide +kernel) rfl
theorem tw3_174 : Cond.instanceMethod yX11_sees ∈ TB := tb_in3 (i := 174) (by decide +kernel) rfl
theorem tw3_175 : Cond.selects RX11 yX11_sees yX11_sees ∈ TB := tb_in3 (i := 175) (by decide +kernel) rfl
theorem tw7_130 : Cond.code yX12_sees cX12_sees 4 (some .int) ∈ TB := tb_in7 (i := 130) rfl rfl
theorem tw7_127 : Cond.methodLink RL 85 yX12_sees ∈ TB := tb_in7 (i := 127) (by decide +kernel) rfl
theorem tw7_128 : Cond.instanceMethod yX12_sees ∈ TB := tb_in7 (i := 128) (by decide +kernel) rfl
theorem tw7_129 : Cond.selects RX12 yX12_sees yX12_sees ∈ TB := tb_in7 (i := 129) (by decide +kernel) rfl
theorem tw3_181 : Cond.code yX11_far cX11_far 4 (some .int) ∈ TB := tb_in3 (i := 181) rfl rfl
theorem tw3_178 : Cond.methodLink RL 86 yX11_far ∈ TB := tb_in3 (i := 178) (by decide +kernel) rfl
theorem tw3_179 : Cond.instanceMethod yX11_far ∈ TB := tb_in3 (i := 179) (by decide +kernel) rfl
theorem tw3_180 : Cond.selects RX11 yX11_far yX11_far ∈ TB := tb_in3 (i := 180) (by decide +kernel) rfl
theorem tw7_134 : Cond.code yX12_far cX12_far 4 (some .int) ∈ TB := tb_in7 (i := 134) rfl rfl
theorem tw7_131 : Cond.methodLink RL 89 yX12_far ∈ TB := tb_in7 (i := 131) (by decide +kernel) rfl
theorem tw7_132 : Cond.instanceMethod yX12_far ∈ TB := tb_in7 (i := 132) (by decide +kernel) rfl
theorem tw7_133 : Cond.selects RX12 yX12_far yX12_far ∈ TB := tb_in7 (i := 133) (by decide +kernel) rfl
theorem tw3_210 : Cond.code yX11_by cX11_by 4 (some .int) ∈ TB := tb_in3 (i := 210) rfl rfl
theorem tw3_207 : Cond.methodLink RL 90 yX11_by ∈ TB := tb_in3 (i := 207) (by decide +kernel) rfl
theorem tw3_208 : Cond.instanceMethod yX11_by ∈ TB := tb_in3 (i := 208) (by decide +kernel) rfl
theorem tw3_209 : Cond.selects RX11 yX11_by yX11_by ∈ TB := tb_in3 (i := 209) (by decide +kernel) rfl
theorem tw7_161 : Cond.code yX12_by cX12_by 4 (some .int) ∈ TB := tb_in7 (i := 161) rfl rfl
theorem tw7_158 : Cond.methodLink RL 93 yX12_by ∈ TB := tb_in7 (i := 158) (by decide +kernel) rfl
theorem tw7_159 : Cond.instanceMethod yX12_by ∈ TB := tb_in7 (i := 159) (by decide +kernel) rfl
theorem tw7_160 : Cond.selects RX12 yX12_by yX12_by ∈ TB := tb_in7 (i := 160) (by decide +kernel) rfl
theorem tw3_219 : Cond.code yX11_falls cX11_falls 4 (some .int) ∈ TB := tb_in3 (i := 219) rfl rfl
theorem tw3_216 : Cond.methodLink RL 94 yX11_falls ∈ TB := tb_in3 (i := 216) (by decide +kernel) rfl
theorem tw3_217 : Cond.instanceMethod yX11_falls ∈ TB := tb_in3 (i := 217) (by decide +kernel) rfl
theorem tw3_218 : Cond.selects RX11 yX11_falls yX11_falls ∈ TB := tb_in3 (i := 218) (by decide +kernel) rfl
theorem tw7_165 : Cond.code yX12_falls cX12_falls 4 (some .int) ∈ TB := tb_in7 (i := 165) rfl rfl
theorem tw7_162 : Cond.methodLink RL 97 yX12_falls ∈ TB := tb_in7 (i := 162) (by decide +kernel) rfl
theorem tw7_163 : Cond.instanceMethod yX12_falls ∈ TB := tb_in7 (i := 163) (by decide +kernel) rfl
theorem tw7_164 : Cond.selects RX12 yX12_falls yX12_falls ∈ TB := tb_in7 (i := 164) (by decide +kernel) rfl
theorem tw3_227 : Cond.code yX11_best cX11_best 2 (some .int) ∈ TB := tb_in3 (i := 227) rfl rfl
theorem tw3_224 : Cond.methodLink RL 98 yX11_best ∈ TB := tb_in3 (i := 224) (by decide +kernel) rfl
theorem tw3_225 : Cond.instanceMethod yX11_best ∈ TB := tb_in3 (i := 225) (by decide +kernel) rfl
theorem tw3_226 : Cond.selects RX11 yX11_best yX11_best ∈ TB := tb_in3 (i := 226) (by decide +kernel) rfl
theorem tw7_173 : Cond.code yX12_best cX12_best 7 (some .int) ∈ TB := tb_in7 (i := 173) rfl rfl
theorem tw7_170 : Cond.methodLink RL 101 yX12_best ∈ TB := tb_in7 (i := 170) (by decide +kernel) rfl
theorem tw7_171 : Cond.instanceMethod yX12_best ∈ TB := tb_in7 (i := 171) (by decide +kernel) rfl
theorem tw7_172 : Cond.selects RX12 yX12_best yX12_best ∈ TB := tb_in7 (i := 172) (by decide +kernel) rfl
theorem tw3_235 : Cond.code yX11_worst cX11_worst 2 (some .int) ∈ TB := tb_in3 (i := 235) rfl rfl
theorem tw3_232 : Cond.methodLink RL 102 yX11_worst ∈ TB := tb_in3 (i := 232) (by decide +kernel) rfl
theorem tw3_233 : Cond.instanceMethod yX11_worst ∈ TB := tb_in3 (i := 233) (by decide +kernel) rfl
theorem tw3_234 : Cond.selects RX11 yX11_worst yX11_worst ∈ TB := tb_in3 (i := 234) (by decide +kernel) rfl
theorem tw7_177 : Cond.code yX12_worst cX12_worst 2 (some .int) ∈ TB := tb_in7 (i := 177) rfl rfl
theorem tw7_174 : Cond.methodLink RL 105 yX12_worst ∈ TB := tb_in7 (i := 174) (by decide +kernel) rfl
theorem tw7_175 : Cond.instanceMethod yX12_worst ∈ TB := tb_in7 (i := 175) (by decide +kernel) rfl
theorem tw7_176 : Cond.selects RX12 yX12_worst yX12_worst ∈ TB := tb_in7 (i := 176) (by decide +kernel) rfl
theorem tw4_6 : Cond.code yX11_kept cX11_kept 2 (some .int) ∈ TB := tb_in4 (i := 6) rfl rfl
theorem tw4_3 : Cond.methodLink RL 106 yX11_kept ∈ TB := tb_in4 (i := 3) (by decide +kernel) rfl
theorem tw4_4 : Cond.instanceMethod yX11_kept ∈ TB := tb_in4 (i := 4) (by decide +kernel) rfl
theorem tw4_5 : Cond.selects RX11 yX11_kept yX11_kept ∈ TB := tb_in4 (i := 5) (by decide +kernel) rfl
theorem tw7_185 : Cond.code yX12_kept cX12_kept 2 (some .int) ∈ TB := tb_in7 (i := 185) rfl rfl
theorem tw7_182 : Cond.methodLink RL 109 yX12_kept ∈ TB := tb_in7 (i := 182) (by decide +kernel) rfl
theorem tw7_183 : Cond.instanceMethod yX12_kept ∈ TB := tb_in7 (i := 183) (by decide +kernel) rfl
theorem tw7_184 : Cond.selects RX12 yX12_kept yX12_kept ∈ TB := tb_in7 (i := 184) (by decide +kernel) rfl
theorem tw4_15 : Cond.code yX11_breaks cX11_breaks 3 (some .int) ∈ TB := tb_in4 (i := 15) rfl rfl
theorem tw4_12 : Cond.methodLink RL 110 yX11_breaks ∈ TB := tb_in4 (i := 12) (by decide +kernel) rfl
theorem tw4_13 : Cond.instanceMethod yX11_breaks ∈ TB := tb_in4 (i := 13) (by decide +kernel) rfl
theorem tw4_14 : Cond.selects RX11 yX11_breaks yX11_breaks ∈ TB := tb_in4 (i := 14) (by decide +kernel) rfl
theorem tw7_193 : Cond.code yX12_breaks cX12_breaks 3 (some .int) ∈ TB := tb_in7 (i := 193) rfl rfl
theorem tw7_190 : Cond.methodLink RL 113 yX12_breaks ∈ TB := tb_in7 (i := 190) (by decide +kernel) rfl
theorem tw7_191 : Cond.instanceMethod yX12_breaks ∈ TB := tb_in7 (i := 191) (by decide +kernel) rfl
theorem tw7_192 : Cond.selects RX12 yX12_breaks yX12_breaks ∈ TB := tb_in7 (i := 192) (by decide +kernel) rfl
theorem tw4_19 : Cond.code yX11_screws cX11_screws 3 (some .int) ∈ TB := tb_in4 (i := 19) rfl rfl
theorem tw4_16 : Cond.methodLink RL 114 yX11_screws ∈ TB := tb_in4 (i := 16) (by decide +kernel) rfl
theorem tw4_17 : Cond.instanceMethod yX11_screws ∈ TB := tb_in4 (i := 17) (by decide +kernel) rfl
theorem tw4_18 : Cond.selects RX11 yX11_screws yX11_screws ∈ TB := tb_in4 (i := 18) (by decide +kernel) rfl
theorem tw7_197 : Cond.code yX12_screws cX12_screws 3 (some .int) ∈ TB := tb_in7 (i := 197) rfl rfl
theorem tw7_194 : Cond.methodLink RL 117 yX12_screws ∈ TB := tb_in7 (i := 194) (by decide +kernel) rfl
theorem tw7_195 : Cond.instanceMethod yX12_screws ∈ TB := tb_in7 (i := 195) (by decide +kernel) rfl
theorem tw7_196 : Cond.selects RX12 yX12_screws yX12_screws ∈ TB := tb_in7 (i := 196) (by decide +kernel) rfl
theorem tw4_23 : Cond.code yX11_lawful cX11_lawful 3 (some .int) ∈ TB := tb_in4 (i := 23) rfl rfl
theorem tw4_20 : Cond.methodLink RL 118 yX11_lawful ∈ TB := tb_in4 (i := 20) (by decide +kernel) rfl
theorem tw4_21 : Cond.instanceMethod yX11_lawful ∈ TB := tb_in4 (i := 21) (by decide +kernel) rfl
theorem tw4_22 : Cond.selects RX11 yX11_lawful yX11_lawful ∈ TB := tb_in4 (i := 22) (by decide +kernel) rfl
theorem tw7_201 : Cond.code yX12_lawful cX12_lawful 3 (some .int) ∈ TB := tb_in7 (i := 201) rfl rfl
theorem tw7_198 : Cond.methodLink RL 121 yX12_lawful ∈ TB := tb_in7 (i := 198) (by decide +kernel) rfl
theorem tw7_199 : Cond.instanceMethod yX12_lawful ∈ TB := tb_in7 (i := 199) (by decide +kernel) rfl
theorem tw7_200 : Cond.selects RX12 yX12_lawful yX12_lawful ∈ TB := tb_in7 (i := 200) (by decide +kernel) rfl
theorem tw4_27 : Cond.code yX11_out cX11_out 3 (some .int) ∈ TB := tb_in4 (i := 27) rfl rfl
theorem tw4_24 : Cond.methodLink RL 122 yX11_out ∈ TB := tb_in4 (i := 24) (by decide +kernel) rfl
theorem tw4_25 : Cond.instanceMethod yX11_out ∈ TB := tb_in4 (i := 25) (by decide +kernel) rfl
theorem tw4_26 : Cond.selects RX11 yX11_out yX11_out ∈ TB := tb_in4 (i := 26) (by decide +kernel) rfl
theorem tw7_205 : Cond.code yX12_out cX12_out 3 (some .int) ∈ TB := tb_in7 (i := 205) rfl rfl
theorem tw7_202 : Cond.methodLink RL 125 yX12_out ∈ TB := tb_in7 (i := 202) (by decide +kernel) rfl
theorem tw7_203 : Cond.instanceMethod yX12_out ∈ TB := tb_in7 (i := 203) (by decide +kernel) rfl
theorem tw7_204 : Cond.selects RX12 yX12_out yX12_out ∈ TB := tb_in7 (i := 204) (by decide +kernel) rfl
theorem tw4_101 : Cond.code yX11_soonest cX11_soonest 2 (some .int) ∈ TB := tb_in4 (i := 101) rfl rfl
theorem tw4_98 : Cond.methodLink RL 126 yX11_soonest ∈ TB := tb_in4 (i := 98) (by decide +kernel) rfl
theorem tw4_99 : Cond.instanceMethod yX11_soonest ∈ TB := tb_in4 (i := 99) (by decide +kernel) rfl
theorem tw4_100 : Cond.selects RX11 yX11_soonest yX11_soonest ∈ TB := tb_in4 (i := 100) (by decide +kernel) rfl
theorem tw8_1 : Cond.code yX12_soonest cX12_soonest 2 (some .int) ∈ TB := tb_in8 (i := 1) rfl rfl
theorem tw7_238 : Cond.methodLink RL 129 yX12_soonest ∈ TB := tb_in7 (i := 238) (by decide +kernel) rfl
theorem tw7_239 : Cond.instanceMethod yX12_soonest ∈ TB := tb_in7 (i := 239) (by decide +kernel) rfl
theorem tw8_0 : Cond.selects RX12 yX12_soonest yX12_soonest ∈ TB := tb_in8 (i := 0) (by decide +kernel) rfl
theorem tw4_114 : Cond.code yX11_quickest cX11_quickest 6 (some .int) ∈ TB := tb_in4 (i := 114) rfl rfl
theorem tw4_111 : Cond.methodLink RL 130 yX11_quickest ∈ TB := tb_in4 (i := 111) (by decide +kernel) rfl
theorem tw4_112 : Cond.instanceMethod yX11_quickest ∈ TB := tb_in4 (i := 112) (by decide +kernel) rfl
theorem tw4_113 : Cond.selects RX11 yX11_quickest yX11_quickest ∈ TB := tb_in4 (i := 113) (by decide +kernel) rfl
theorem tw8_13 : Cond.code yX12_quickest cX12_quickest 6 (some .int) ∈ TB := tb_in8 (i := 13) rfl rfl
theorem tw8_10 : Cond.methodLink RL 133 yX12_quickest ∈ TB := tb_in8 (i := 10) (by decide +kernel) rfl
theorem tw8_11 : Cond.instanceMethod yX12_quickest ∈ TB := tb_in8 (i := 11) (by decide +kernel) rfl
theorem tw8_12 : Cond.selects RX12 yX12_quickest yX12_quickest ∈ TB := tb_in8 (i := 12) (by decide +kernel) rfl
theorem tw4_121 : Cond.code yX11_wider cX11_wider 4 (some .int) ∈ TB := tb_in4 (i := 121) rfl rfl
theorem tw4_118 : Cond.methodLink RL 134 yX11_wider ∈ TB := tb_in4 (i := 118) (by decide +kernel) rfl
theorem tw4_119 : Cond.instanceMethod yX11_wider ∈ TB := tb_in4 (i := 119) (by decide +kernel) rfl
theorem tw4_120 : Cond.selects RX11 yX11_wider yX11_wider ∈ TB := tb_in4 (i := 120) (by decide +kernel) rfl
theorem tw8_18 : Cond.code yX12_wider cX12_wider 5 (some .int) ∈ TB := tb_in8 (i := 18) rfl rfl
theorem tw8_15 : Cond.methodLink RL 137 yX12_wider ∈ TB := tb_in8 (i := 15) (by decide +kernel) rfl
theorem tw8_16 : Cond.instanceMethod yX12_wider ∈ TB := tb_in8 (i := 16) (by decide +kernel) rfl
theorem tw8_17 : Cond.selects RX12 yX12_wider yX12_wider ∈ TB := tb_in8 (i := 17) (by decide +kernel) rfl
theorem tw4_125 : Cond.code yX11_stand cX11_stand 2 (some .int) ∈ TB := tb_in4 (i := 125) rfl rfl
theorem tw4_122 : Cond.methodLink RL 138 yX11_stand ∈ TB := tb_in4 (i := 122) (by decide +kernel) rfl
theorem tw4_123 : Cond.instanceMethod yX11_stand ∈ TB := tb_in4 (i := 123) (by decide +kernel) rfl
theorem tw4_124 : Cond.selects RX11 yX11_stand yX11_stand ∈ TB := tb_in4 (i := 124) (by decide +kernel) rfl
theorem tw8_22 : Cond.code yX12_stand cX12_stand 3 (some .int) ∈ TB := tb_in8 (i := 22) rfl rfl
theorem tw8_19 : Cond.methodLink RL 141 yX12_stand ∈ TB := tb_in8 (i := 19) (by decide +kernel) rfl
theorem tw8_20 : Cond.instanceMethod yX12_stand ∈ TB := tb_in8 (i := 20) (by decide +kernel) rfl
theorem tw8_21 : Cond.selects RX12 yX12_stand yX12_stand ∈ TB := tb_in8 (i := 21) (by decide +kernel) rfl
theorem tw4_156 : Cond.code yX11_stands cX11_stands 3 (some .int) ∈ TB := tb_in4 (i := 156) rfl rfl
theorem tw4_153 : Cond.methodLink RL 142 yX11_stands ∈ TB := tb_in4 (i := 153) (by decide +kernel) rfl
theorem tw4_154 : Cond.instanceMethod yX11_stands ∈ TB := tb_in4 (i := 154) (by decide +kernel) rfl
theorem tw4_155 : Cond.selects RX11 yX11_stands yX11_stands ∈ TB := tb_in4 (i := 155) (by decide +kernel) rfl
theorem tw8_42 : Cond.code yX12_stands cX12_stands 2 (some .int) ∈ TB := tb_in8 (i := 42) rfl rfl
theorem tw8_39 : Cond.methodLink RL 145 yX12_stands ∈ TB := tb_in8 (i := 39) (by decide +kernel) rfl
theorem tw8_40 : Cond.instanceMethod yX12_stands ∈ TB := tb_in8 (i := 40) (by decide +kernel) rfl
theorem tw8_41 : Cond.selects RX12 yX12_stands yX12_stands ∈ TB := tb_in8 (i := 41) (by decide +kernel) rfl
theorem tw4_161 : Cond.code yX11_needs cX11_needs 2 (some .int) ∈ TB := tb_in4 (i := 161) rfl rfl
theorem tw4_158 : Cond.methodLink RL 146 yX11_needs ∈ TB := tb_in4 (i := 158) (by decide +kernel) rfl
theorem tw4_159 : Cond.instanceMethod yX11_needs ∈ TB := tb_in4 (i := 159) (by decide +kernel) rfl
theorem tw4_160 : Cond.selects RX11 yX11_needs yX11_needs ∈ TB := tb_in4 (i := 160) (by decide +kernel) rfl
theorem tw8_46 : Cond.code yX12_needs cX12_needs 2 (some .int) ∈ TB := tb_in8 (i := 46) rfl rfl
theorem tw8_43 : Cond.methodLink RL 149 yX12_needs ∈ TB := tb_in8 (i := 43) (by decide +kernel) rfl
theorem tw8_44 : Cond.instanceMethod yX12_needs ∈ TB := tb_in8 (i := 44) (by decide +kernel) rfl
theorem tw8_45 : Cond.selects RX12 yX12_needs yX12_needs ∈ TB := tb_in8 (i := 45) (by decide +kernel) rfl
theorem tw4_165 : Cond.code yX11_wind cX11_wind 2 (some .int) ∈ TB := tb_in4 (i := 165) rfl rfl
theorem tw4_162 : Cond.methodLink RL 150 yX11_wind ∈ TB := tb_in4 (i := 162) (by decide +kernel) rfl
theorem tw4_163 : Cond.instanceMethod yX11_wind ∈ TB := tb_in4 (i := 163) (by decide +kernel) rfl
theorem tw4_164 : Cond.selects RX11 yX11_wind yX11_wind ∈ TB := tb_in4 (i := 164) (by decide +kernel) rfl
theorem tw8_50 : Cond.code yX12_wind cX12_wind 2 (some .int) ∈ TB := tb_in8 (i := 50) rfl rfl
theorem tw8_47 : Cond.methodLink RL 153 yX12_wind ∈ TB := tb_in8 (i := 47) (by decide +kernel) rfl
theorem tw8_48 : Cond.instanceMethod yX12_wind ∈ TB := tb_in8 (i := 48) (by decide +kernel) rfl
theorem tw8_49 : Cond.selects RX12 yX12_wind yX12_wind ∈ TB := tb_in8 (i := 49) (by decide +kernel) rfl
theorem tw4_177 : Cond.code yX11_calmest cX11_calmest 6 (some .int) ∈ TB := tb_in4 (i := 177) rfl rfl
theorem tw4_174 : Cond.methodLink RL 154 yX11_calmest ∈ TB := tb_in4 (i := 174) (by decide +kernel) rfl
theorem tw4_175 : Cond.instanceMethod yX11_calmest ∈ TB := tb_in4 (i := 175) (by decide +kernel) rfl
theorem tw4_176 : Cond.selects RX11 yX11_calmest yX11_calmest ∈ TB := tb_in4 (i := 176) (by decide +kernel) rfl
theorem tw8_58 : Cond.code yX12_calmest cX12_calmest 4 (some .int) ∈ TB := tb_in8 (i := 58) rfl rfl
theorem tw8_55 : Cond.methodLink RL 157 yX12_calmest ∈ TB := tb_in8 (i := 55) (by decide +kernel) rfl
theorem tw8_56 : Cond.instanceMethod yX12_calmest ∈ TB := tb_in8 (i := 56) (by decide +kernel) rfl
theorem tw8_57 : Cond.selects RX12 yX12_calmest yX12_calmest ∈ TB := tb_in8 (i := 57) (by decide +kernel) rfl
theorem tw4_181 : Cond.code yX11_seen cX11_seen 3 (some .long) ∈ TB := tb_in4 (i := 181) rfl rfl
theorem tw4_178 : Cond.methodLink RL 158 yX11_seen ∈ TB := tb_in4 (i := 178) (by decide +kernel) rfl
theorem tw4_179 : Cond.instanceMethod yX11_seen ∈ TB := tb_in4 (i := 179) (by decide +kernel) rfl
theorem tw4_180 : Cond.selects RX11 yX11_seen yX11_seen ∈ TB := tb_in4 (i := 180) (by decide +kernel) rfl
theorem tw8_62 : Cond.code yX12_seen cX12_seen 6 (some .long) ∈ TB := tb_in8 (i := 62) rfl rfl
theorem tw8_59 : Cond.methodLink RL 162 yX12_seen ∈ TB := tb_in8 (i := 59) (by decide +kernel) rfl
theorem tw8_60 : Cond.instanceMethod yX12_seen ∈ TB := tb_in8 (i := 60) (by decide +kernel) rfl
theorem tw8_61 : Cond.selects RX12 yX12_seen yX12_seen ∈ TB := tb_in8 (i := 61) (by decide +kernel) rfl
theorem tw4_218 : Cond.code yX11_ask cX11_ask 3 (some .int) ∈ TB := tb_in4 (i := 218) rfl rfl
theorem tw4_215 : Cond.methodLink RL 163 yX11_ask ∈ TB := tb_in4 (i := 215) (by decide +kernel) rfl
theorem tw4_216 : Cond.instanceMethod yX11_ask ∈ TB := tb_in4 (i := 216) (by decide +kernel) rfl
theorem tw4_217 : Cond.selects RX11 yX11_ask yX11_ask ∈ TB := tb_in4 (i := 217) (by decide +kernel) rfl
theorem tw8_78 : Cond.code yX12_ask cX12_ask 3 (some .int) ∈ TB := tb_in8 (i := 78) rfl rfl
theorem tw8_75 : Cond.methodLink RL 166 yX12_ask ∈ TB := tb_in8 (i := 75) (by decide +kernel) rfl
theorem tw8_76 : Cond.instanceMethod yX12_ask ∈ TB := tb_in8 (i := 76) (by decide +kernel) rfl
theorem tw8_77 : Cond.selects RX12 yX12_ask yX12_ask ∈ TB := tb_in8 (i := 77) (by decide +kernel) rfl
theorem tw4_232 : Cond.code yX11_leaves cX11_leaves 3 (some .int) ∈ TB := tb_in4 (i := 232) rfl rfl
theorem tw4_229 : Cond.methodLink RL 167 yX11_leaves ∈ TB := tb_in4 (i := 229) (by decide +kernel) rfl
theorem tw4_230 : Cond.instanceMethod yX11_leaves ∈ TB := tb_in4 (i := 230) (by decide +kernel) rfl
theorem tw4_231 : Cond.selects RX11 yX11_leaves yX11_leaves ∈ TB := tb_in4 (i := 231) (by decide +kernel) rfl
theorem tw8_86 : Cond.code yX12_leaves cX12_leaves 3 (some .int) ∈ TB := tb_in8 (i := 86) rfl rfl
theorem tw8_83 : Cond.methodLink RL 170 yX12_leaves ∈ TB := tb_in8 (i := 83) (by decide +kernel) rfl
theorem tw8_84 : Cond.instanceMethod yX12_leaves ∈ TB := tb_in8 (i := 84) (by decide +kernel) rfl
theorem tw8_85 : Cond.selects RX12 yX12_leaves yX12_leaves ∈ TB := tb_in8 (i := 85) (by decide +kernel) rfl
theorem tw5_1 : Cond.code yX11_fell cX11_fell 3 (some .long) ∈ TB := tb_in5 (i := 1) rfl rfl
theorem tw4_238 : Cond.methodLink RL 171 yX11_fell ∈ TB := tb_in4 (i := 238) (by decide +kernel) rfl
theorem tw4_239 : Cond.instanceMethod yX11_fell ∈ TB := tb_in4 (i := 239) (by decide +kernel) rfl
theorem tw5_0 : Cond.selects RX11 yX11_fell yX11_fell ∈ TB := tb_in5 (i := 0) (by decide +kernel) rfl
theorem tw8_90 : Cond.code yX12_fell cX12_fell 6 (some .long) ∈ TB := tb_in8 (i := 90) rfl rfl
theorem tw8_87 : Cond.methodLink RL 174 yX12_fell ∈ TB := tb_in8 (i := 87) (by decide +kernel) rfl
theorem tw8_88 : Cond.instanceMethod yX12_fell ∈ TB := tb_in8 (i := 88) (by decide +kernel) rfl
theorem tw8_89 : Cond.selects RX12 yX12_fell yX12_fell ∈ TB := tb_in8 (i := 89) (by decide +kernel) rfl
theorem tw5_21 : Cond.code yX11_many cX11_many 3 (some .int) ∈ TB := tb_in5 (i := 21) rfl rfl
theorem tw5_18 : Cond.methodLink RL 175 yX11_many ∈ TB := tb_in5 (i := 18) (by decide +kernel) rfl
theorem tw5_19 : Cond.instanceMethod yX11_many ∈ TB := tb_in5 (i := 19) (by decide +kernel) rfl
theorem tw5_20 : Cond.selects RX11 yX11_many yX11_many ∈ TB := tb_in5 (i := 20) (by decide +kernel) rfl
theorem tw8_102 : Cond.code yX12_many cX12_many 5 (some .int) ∈ TB := tb_in8 (i := 102) rfl rfl
theorem tw8_99 : Cond.methodLink RL 178 yX12_many ∈ TB := tb_in8 (i := 99) (by decide +kernel) rfl
theorem tw8_100 : Cond.instanceMethod yX12_many ∈ TB := tb_in8 (i := 100) (by decide +kernel) rfl
theorem tw8_101 : Cond.selects RX12 yX12_many yX12_many ∈ TB := tb_in8 (i := 101) (by decide +kernel) rfl
theorem tw5_26 : Cond.code yX11_sure cX11_sure 4 (some .int) ∈ TB := tb_in5 (i := 26) rfl rfl
theorem tw5_23 : Cond.methodLink RL 179 yX11_sure ∈ TB := tb_in5 (i := 23) (by decide +kernel) rfl
theorem tw5_24 : Cond.instanceMethod yX11_sure ∈ TB := tb_in5 (i := 24) (by decide +kernel) rfl
theorem tw5_25 : Cond.selects RX11 yX11_sure yX11_sure ∈ TB := tb_in5 (i := 25) (by decide +kernel) rfl
theorem tw8_106 : Cond.code yX12_sure cX12_sure 6 (some .int) ∈ TB := tb_in8 (i := 106) rfl rfl
theorem tw8_103 : Cond.methodLink RL 182 yX12_sure ∈ TB := tb_in8 (i := 103) (by decide +kernel) rfl
theorem tw8_104 : Cond.instanceMethod yX12_sure ∈ TB := tb_in8 (i := 104) (by decide +kernel) rfl
theorem tw8_105 : Cond.selects RX12 yX12_sure yX12_sure ∈ TB := tb_in8 (i := 105) (by decide +kernel) rfl
theorem tw5_34 : Cond.code yX11_known cX11_known 4 (some .int) ∈ TB := tb_in5 (i := 34) rfl rfl
theorem tw5_31 : Cond.methodLink RL 183 yX11_known ∈ TB := tb_in5 (i := 31) (by decide +kernel) rfl
theorem tw5_32 : Cond.instanceMethod yX11_known ∈ TB := tb_in5 (i := 32) (by decide +kernel) rfl
theorem tw5_33 : Cond.selects RX11 yX11_known yX11_known ∈ TB := tb_in5 (i := 33) (by decide +kernel) rfl
theorem tw8_110 : Cond.code yX12_known cX12_known 4 (some .int) ∈ TB := tb_in8 (i := 110) rfl rfl
theorem tw8_107 : Cond.methodLink RL 186 yX12_known ∈ TB := tb_in8 (i := 107) (by decide +kernel) rfl
theorem tw8_108 : Cond.instanceMethod yX12_known ∈ TB := tb_in8 (i := 108) (by decide +kernel) rfl
theorem tw8_109 : Cond.selects RX12 yX12_known yX12_known ∈ TB := tb_in8 (i := 109) (by decide +kernel) rfl
theorem tw5_43 : Cond.code yX11_blind cX11_blind 5 (some .int) ∈ TB := tb_in5 (i := 43) rfl rfl
theorem tw5_40 : Cond.methodLink RL 187 yX11_blind ∈ TB := tb_in5 (i := 40) (by decide +kernel) rfl
theorem tw5_41 : Cond.instanceMethod yX11_blind ∈ TB := tb_in5 (i := 41) (by decide +kernel) rfl
theorem tw5_42 : Cond.selects RX11 yX11_blind yX11_blind ∈ TB := tb_in5 (i := 42) (by decide +kernel) rfl
theorem tw8_118 : Cond.code yX12_blind cX12_blind 4 (some .int) ∈ TB := tb_in8 (i := 118) rfl rfl
theorem tw8_115 : Cond.methodLink RL 190 yX12_blind ∈ TB := tb_in8 (i := 115) (by decide +kernel) rfl
theorem tw8_116 : Cond.instanceMethod yX12_blind ∈ TB := tb_in8 (i := 116) (by decide +kernel) rfl
theorem tw8_117 : Cond.selects RX12 yX12_blind yX12_blind ∈ TB := tb_in8 (i := 117) (by decide +kernel) rfl
theorem tw5_64 : Cond.code yX11_goes cX11_goes 4 (some .int) ∈ TB := tb_in5 (i := 64) rfl rfl
theorem tw5_61 : Cond.methodLink RL 191 yX11_goes ∈ TB := tb_in5 (i := 61) (by decide +kernel) rfl
theorem tw5_62 : Cond.instanceMethod yX11_goes ∈ TB := tb_in5 (i := 62) (by decide +kernel) rfl
theorem tw5_63 : Cond.selects RX11 yX11_goes yX11_goes ∈ TB := tb_in5 (i := 63) (by decide +kernel) rfl
theorem tw8_130 : Cond.code yX12_goes cX12_goes 4 (some .int) ∈ TB := tb_in8 (i := 130) rfl rfl
theorem tw8_127 : Cond.methodLink RL 194 yX12_goes ∈ TB := tb_in8 (i := 127) (by decide +kernel) rfl
theorem tw8_128 : Cond.instanceMethod yX12_goes ∈ TB := tb_in8 (i := 128) (by decide +kernel) rfl
theorem tw8_129 : Cond.selects RX12 yX12_goes yX12_goes ∈ TB := tb_in8 (i := 129) (by decide +kernel) rfl
theorem tw5_68 : Cond.code yX11_worth cX11_worth 4 (some .int) ∈ TB := tb_in5 (i := 68) rfl rfl
theorem tw5_65 : Cond.methodLink RL 195 yX11_worth ∈ TB := tb_in5 (i := 65) (by decide +kernel) rfl
theorem tw5_66 : Cond.instanceMethod yX11_worth ∈ TB := tb_in5 (i := 66) (by decide +kernel) rfl
theorem tw5_67 : Cond.selects RX11 yX11_worth yX11_worth ∈ TB := tb_in5 (i := 67) (by decide +kernel) rfl
theorem tw8_134 : Cond.code yX12_worth cX12_worth 4 (some .int) ∈ TB := tb_in8 (i := 134) rfl rfl
theorem tw8_131 : Cond.methodLink RL 198 yX12_worth ∈ TB := tb_in8 (i := 131) (by decide +kernel) rfl
theorem tw8_132 : Cond.instanceMethod yX12_worth ∈ TB := tb_in8 (i := 132) (by decide +kernel) rfl
theorem tw8_133 : Cond.selects RX12 yX12_worth yX12_worth ∈ TB := tb_in8 (i := 133) (by decide +kernel) rfl
theorem tw5_72 : Cond.code yX11_lured cX11_lured 3 (some .int) ∈ TB := tb_in5 (i := 72) rfl rfl
theorem tw5_69 : Cond.methodLink RL 199 yX11_lured ∈ TB := tb_in5 (i := 69) (by decide +kernel) rfl
theorem tw5_70 : Cond.instanceMethod yX11_lured ∈ TB := tb_in5 (i := 70) (by decide +kernel) rfl
theorem tw5_71 : Cond.selects RX11 yX11_lured yX11_lured ∈ TB := tb_in5 (i := 71) (by decide +kernel) rfl
theorem tw8_138 : Cond.code yX12_lured cX12_lured 3 (some .int) ∈ TB := tb_in8 (i := 138) rfl rfl
theorem tw8_135 : Cond.methodLink RL 202 yX12_lured ∈ TB := tb_in8 (i := 135) (by decide +kernel) rfl
theorem tw8_136 : Cond.instanceMethod yX12_lured ∈ TB := tb_in8 (i := 136) (by decide +kernel) rfl
theorem tw8_137 : Cond.selects RX12 yX12_lured yX12_lured ∈ TB := tb_in8 (i := 137) (by decide +kernel) rfl
theorem tw5_82 : Cond.code yX11_danger cX11_danger 6 (some .int) ∈ TB := tb_in5 (i := 82) rfl rfl
theorem tw5_79 : Cond.methodLink RL 203 yX11_danger ∈ TB := tb_in5 (i := 79) (by decide +kernel) rfl
theorem tw5_80 : Cond.instanceMethod yX11_danger ∈ TB := tb_in5 (i := 80) (by decide +kernel) rfl
theorem tw5_81 : Cond.selects RX11 yX11_danger yX11_danger ∈ TB := tb_in5 (i := 81) (by decide +kernel) rfl
theorem tw8_146 : Cond.code yX12_danger cX12_danger 4 (some .int) ∈ TB := tb_in8 (i := 146) rfl rfl
theorem tw8_143 : Cond.methodLink RL 206 yX12_danger ∈ TB := tb_in8 (i := 143) (by decide +kernel) rfl
theorem tw8_144 : Cond.instanceMethod yX12_danger ∈ TB := tb_in8 (i := 144) (by decide +kernel) rfl
theorem tw8_145 : Cond.selects RX12 yX12_danger yX12_danger ∈ TB := tb_in8 (i := 145) (by decide +kernel) rfl
theorem tw5_86 : Cond.code yX11_claque cX11_claque 3 (some .int) ∈ TB := tb_in5 (i := 86) rfl rfl
theorem tw5_83 : Cond.methodLink RL 207 yX11_claque ∈ TB := tb_in5 (i := 83) (by decide +kernel) rfl
theorem tw5_84 : Cond.instanceMethod yX11_claque ∈ TB := tb_in5 (i := 84) (by decide +kernel) rfl
theorem tw5_85 : Cond.selects RX11 yX11_claque yX11_claque ∈ TB := tb_in5 (i := 85) (by decide +kernel) rfl
theorem tw8_150 : Cond.code yX12_claque cX12_claque 3 (some .int) ∈ TB := tb_in8 (i := 150) rfl rfl
theorem tw8_147 : Cond.methodLink RL 210 yX12_claque ∈ TB := tb_in8 (i := 147) (by decide +kernel) rfl
theorem tw8_148 : Cond.instanceMethod yX12_claque ∈ TB := tb_in8 (i := 148) (by decide +kernel) rfl
theorem tw8_149 : Cond.selects RX12 yX12_claque yX12_claque ∈ TB := tb_in8 (i := 149) (by decide +kernel) rfl
theorem tw5_96 : Cond.code yX11_lastly cX11_lastly 4 (some .int) ∈ TB := tb_in5 (i := 96) rfl rfl
theorem tw5_93 : Cond.methodLink RL 211 yX11_lastly ∈ TB := tb_in5 (i := 93) (by decide +kernel) rfl
theorem tw5_94 : Cond.instanceMethod yX11_lastly ∈ TB := tb_in5 (i := 94) (by decide +kernel) rfl
theorem tw5_95 : Cond.selects RX11 yX11_lastly yX11_lastly ∈ TB := tb_in5 (i := 95) (by decide +kernel) rfl
theorem tw8_158 : Cond.code yX12_lastly cX12_lastly 3 (some .int) ∈ TB := tb_in8 (i := 158) rfl rfl
theorem tw8_155 : Cond.methodLink RL 214 yX12_lastly ∈ TB := tb_in8 (i := 155) (by decide +kernel) rfl
theorem tw8_156 : Cond.instanceMethod yX12_lastly ∈ TB := tb_in8 (i := 156) (by decide +kernel) rfl
theorem tw8_157 : Cond.selects RX12 yX12_lastly yX12_lastly ∈ TB := tb_in8 (i := 157) (by decide +kernel) rfl
theorem tw5_100 : Cond.code yX11_screw cX11_screw 4 (some .int) ∈ TB := tb_in5 (i := 100) rfl rfl
theorem tw5_97 : Cond.methodLink RL 215 yX11_screw ∈ TB := tb_in5 (i := 97) (by decide +kernel) rfl
theorem tw5_98 : Cond.instanceMethod yX11_screw ∈ TB := tb_in5 (i := 98) (by decide +kernel) rfl
theorem tw5_99 : Cond.selects RX11 yX11_screw yX11_screw ∈ TB := tb_in5 (i := 99) (by decide +kernel) rfl
theorem tw8_162 : Cond.code yX12_screw cX12_screw 4 (some .int) ∈ TB := tb_in8 (i := 162) rfl rfl
theorem tw8_159 : Cond.methodLink RL 218 yX12_screw ∈ TB := tb_in8 (i := 159) (by decide +kernel) rfl
theorem tw8_160 : Cond.instanceMethod yX12_screw ∈ TB := tb_in8 (i := 160) (by decide +kernel) rfl
theorem tw8_161 : Cond.selects RX12 yX12_screw yX12_screw ∈ TB := tb_in8 (i := 161) (by decide +kernel) rfl
theorem tw5_113 : Cond.code yX11_king cX11_king 5 (some .int) ∈ TB := tb_in5 (i := 113) rfl rfl
theorem tw5_110 : Cond.methodLink RL 219 yX11_king ∈ TB := tb_in5 (i := 110) (by decide +kernel) rfl
theorem tw5_111 : Cond.instanceMethod yX11_king ∈ TB := tb_in5 (i := 111) (by decide +kernel) rfl
theorem tw5_112 : Cond.selects RX11 yX11_king yX11_king ∈ TB := tb_in5 (i := 112) (by decide +kernel) rfl
theorem tw8_171 : Cond.code yX12_king cX12_king 5 (some .int) ∈ TB := tb_in8 (i := 171) rfl rfl
theorem tw8_168 : Cond.methodLink RL 222 yX12_king ∈ TB := tb_in8 (i := 168) (by decide +kernel) rfl
theorem tw8_169 : Cond.instanceMethod yX12_king ∈ TB := tb_in8 (i := 169) (by decide +kernel) rfl
theorem tw8_170 : Cond.selects RX12 yX12_king yX12_king ∈ TB := tb_in8 (i := 170) (by decide +kernel) rfl
theorem tw5_117 : Cond.code yX11_seats cX11_seats 6 (some .int) ∈ TB := tb_in5 (i := 117) rfl rfl
theorem tw5_114 : Cond.methodLink RL 223 yX11_seats ∈ TB := tb_in5 (i := 114) (by decide +kernel) rfl
theorem tw5_115 : Cond.instanceMethod yX11_seats ∈ TB := tb_in5 (i := 115) (by decide +kernel) rfl
theorem tw5_116 : Cond.selects RX11 yX11_seats yX11_seats ∈ TB := tb_in5 (i := 116) (by decide +kernel) rfl
theorem tw8_175 : Cond.code yX12_seats cX12_seats 5 (some .int) ∈ TB := tb_in8 (i := 175) rfl rfl
theorem tw8_172 : Cond.methodLink RL 226 yX12_seats ∈ TB := tb_in8 (i := 172) (by decide +kernel) rfl
theorem tw8_173 : Cond.instanceMethod yX12_seats ∈ TB := tb_in8 (i := 173) (by decide +kernel) rfl
theorem tw8_174 : Cond.selects RX12 yX12_seats yX12_seats ∈ TB := tb_in8 (i := 174) (by decide +kernel) rfl
theorem tw5_122 : Cond.code yX11_undo cX11_undo 1 (some .int) ∈ TB := tb_in5 (i := 122) rfl rfl
theorem tw5_119 : Cond.methodLink RL 227 yX11_undo ∈ TB := tb_in5 (i := 119) (by decide +kernel) rfl
theorem tw5_120 : Cond.instanceMethod yX11_undo ∈ TB := tb_in5 (i := 120) (by decide +kernel) rfl
theorem tw5_121 : Cond.selects RX11 yX11_undo yX11_undo ∈ TB := tb_in5 (i := 121) (by decide +kernel) rfl
theorem tw8_179 : Cond.code yX12_undo cX12_undo 3 (some .int) ∈ TB := tb_in8 (i := 179) rfl rfl
theorem tw8_176 : Cond.methodLink RL 230 yX12_undo ∈ TB := tb_in8 (i := 176) (by decide +kernel) rfl
theorem tw8_177 : Cond.instanceMethod yX12_undo ∈ TB := tb_in8 (i := 177) (by decide +kernel) rfl
theorem tw8_178 : Cond.selects RX12 yX12_undo yX12_undo ∈ TB := tb_in8 (i := 178) (by decide +kernel) rfl
theorem tw5_131 : Cond.code yX11_drawn cX11_drawn 4 (some .int) ∈ TB := tb_in5 (i := 131) rfl rfl
theorem tw5_128 : Cond.methodLink RL 231 yX11_drawn ∈ TB := tb_in5 (i := 128) (by decide +kernel) rfl
theorem tw5_129 : Cond.instanceMethod yX11_drawn ∈ TB := tb_in5 (i := 129) (by decide +kernel) rfl
theorem tw5_130 : Cond.selects RX11 yX11_drawn yX11_drawn ∈ TB := tb_in5 (i := 130) (by decide +kernel) rfl
theorem tw8_183 : Cond.code yX12_drawn cX12_drawn 4 (some .int) ∈ TB := tb_in8 (i := 183) rfl rfl
theorem tw8_180 : Cond.methodLink RL 234 yX12_drawn ∈ TB := tb_in8 (i := 180) (by decide +kernel) rfl
theorem tw8_181 : Cond.instanceMethod yX12_drawn ∈ TB := tb_in8 (i := 181) (by decide +kernel) rfl
theorem tw8_182 : Cond.selects RX12 yX12_drawn yX12_drawn ∈ TB := tb_in8 (i := 182) (by decide +kernel) rfl
theorem tw5_157 : Cond.code yX11_lucky cX11_lucky 6 (some .int) ∈ TB := tb_in5 (i := 157) rfl rfl
theorem tw5_154 : Cond.methodLink RL 235 yX11_lucky ∈ TB := tb_in5 (i := 154) (by decide +kernel) rfl
theorem tw5_155 : Cond.instanceMethod yX11_lucky ∈ TB := tb_in5 (i := 155) (by decide +kernel) rfl
theorem tw5_156 : Cond.selects RX11 yX11_lucky yX11_lucky ∈ TB := tb_in5 (i := 156) (by decide +kernel) rfl
theorem tw8_201 : Cond.code yX12_lucky cX12_lucky 6 (some .int) ∈ TB := tb_in8 (i := 201) rfl rfl
theorem tw8_198 : Cond.methodLink RL 238 yX12_lucky ∈ TB := tb_in8 (i := 198) (by decide +kernel) rfl
theorem tw8_199 : Cond.instanceMethod yX12_lucky ∈ TB := tb_in8 (i := 199) (by decide +kernel) rfl
theorem tw8_200 : Cond.selects RX12 yX12_lucky yX12_lucky ∈ TB := tb_in8 (i := 200) (by decide +kernel) rfl
theorem tw5_165 : Cond.code yX11_count cX11_count 2 (some .int) ∈ TB := tb_in5 (i := 165) rfl rfl
theorem tw5_162 : Cond.methodLink RL 239 yX11_count ∈ TB := tb_in5 (i := 162) (by decide +kernel) rfl
theorem tw5_163 : Cond.instanceMethod yX11_count ∈ TB := tb_in5 (i := 163) (by decide +kernel) rfl
theorem tw5_164 : Cond.selects RX11 yX11_count yX11_count ∈ TB := tb_in5 (i := 164) (by decide +kernel) rfl
theorem tw8_205 : Cond.code yX12_count cX12_count 4 (some .int) ∈ TB := tb_in8 (i := 205) rfl rfl
theorem tw8_202 : Cond.methodLink RL 242 yX12_count ∈ TB := tb_in8 (i := 202) (by decide +kernel) rfl
theorem tw8_203 : Cond.instanceMethod yX12_count ∈ TB := tb_in8 (i := 203) (by decide +kernel) rfl
theorem tw8_204 : Cond.selects RX12 yX12_count yX12_count ∈ TB := tb_in8 (i := 204) (by decide +kernel) rfl
theorem tw5_173 : Cond.code yX11_image cX11_image 2 (some .int) ∈ TB := tb_in5 (i := 173) rfl rfl
theorem tw5_170 : Cond.methodLink RL 243 yX11_image ∈ TB := tb_in5 (i := 170) (by decide +kernel) rfl
theorem tw5_171 : Cond.instanceMethod yX11_image ∈ TB := tb_in5 (i := 171) (by decide +kernel) rfl
theorem tw5_172 : Cond.selects RX11 yX11_image yX11_image ∈ TB := tb_in5 (i := 172) (by decide +kernel) rfl
theorem tw8_209 : Cond.code yX12_image cX12_image 2 (some .int) ∈ TB := tb_in8 (i := 209) rfl rfl
theorem tw8_206 : Cond.methodLink RL 246 yX12_image ∈ TB := tb_in8 (i := 206) (by decide +kernel) rfl
theorem tw8_207 : Cond.instanceMethod yX12_image ∈ TB := tb_in8 (i := 207) (by decide +kernel) rfl
theorem tw8_208 : Cond.selects RX12 yX12_image yX12_image ∈ TB := tb_in8 (i := 208) (by decide +kernel) rfl
theorem tw5_189 : Cond.code yX11_back cX11_back 2 (some .int) ∈ TB := tb_in5 (i := 189) rfl rfl
theorem tw5_186 : Cond.methodLink RL 247 yX11_back ∈ TB := tb_in5 (i := 186) (by decide +kernel) rfl
theorem tw5_187 : Cond.instanceMethod yX11_back ∈ TB := tb_in5 (i := 187) (by decide +kernel) rfl
theorem tw5_188 : Cond.selects RX11 yX11_back yX11_back ∈ TB := tb_in5 (i := 188) (by decide +kernel) rfl
theorem tw8_214 : Cond.code yX12_back cX12_back 2 (some .int) ∈ TB := tb_in8 (i := 214) rfl rfl
theorem tw8_211 : Cond.methodLink RL 250 yX12_back ∈ TB := tb_in8 (i := 211) (by decide +kernel) rfl
theorem tw8_212 : Cond.instanceMethod yX12_back ∈ TB := tb_in8 (i := 212) (by decide +kernel) rfl
theorem tw8_213 : Cond.selects RX12 yX12_back yX12_back ∈ TB := tb_in8 (i := 213) (by decide +kernel) rfl
theorem tw5_193 : Cond.code yX11_row cX11_row 4 (some .int) ∈ TB := tb_in5 (i := 193) rfl rfl
theorem tw5_190 : Cond.methodLink RL 251 yX11_row ∈ TB := tb_in5 (i := 190) (by decide +kernel) rfl
theorem tw5_191 : Cond.instanceMethod yX11_row ∈ TB := tb_in5 (i := 191) (by decide +kernel) rfl
theorem tw5_192 : Cond.selects RX11 yX11_row yX11_row ∈ TB := tb_in5 (i := 192) (by decide +kernel) rfl
theorem tw6_97 : Cond.code yX12_row cX12_row 5 (some .int) ∈ TB := tb_in6 (i := 97) rfl rfl
theorem tw6_94 : Cond.methodLink RL 254 yX12_row ∈ TB := tb_in6 (i := 94) (by decide +kernel) rfl
theorem tw6_95 : Cond.instanceMethod yX12_row ∈ TB := tb_in6 (i := 95) (by decide +kernel) rfl
theorem tw6_96 : Cond.selects RX12 yX12_row yX12_row ∈ TB := tb_in6 (i := 96) (by decide +kernel) rfl
theorem tw8_215 : Cond.constantLong RL 255 (4294967295) ∈ TB := tb_in8 (i := 215) (by decide +kernel) rfl
theorem tw5_201 : Cond.code yX11_write cX11_write 6 (some .int) ∈ TB := tb_in5 (i := 201) rfl rfl
theorem tw5_198 : Cond.methodLink RL 257 yX11_write ∈ TB := tb_in5 (i := 198) (by decide +kernel) rfl
theorem tw5_199 : Cond.instanceMethod yX11_write ∈ TB := tb_in5 (i := 199) (by decide +kernel) rfl
theorem tw5_200 : Cond.selects RX11 yX11_write yX11_write ∈ TB := tb_in5 (i := 200) (by decide +kernel) rfl
theorem tw6_108 : Cond.code yX12_write cX12_write 5 (some .int) ∈ TB := tb_in6 (i := 108) rfl rfl
theorem tw6_105 : Cond.methodLink RL 261 yX12_write ∈ TB := tb_in6 (i := 105) (by decide +kernel) rfl
theorem tw6_106 : Cond.instanceMethod yX12_write ∈ TB := tb_in6 (i := 106) (by decide +kernel) rfl
theorem tw6_107 : Cond.selects RX12 yX12_write yX12_write ∈ TB := tb_in6 (i := 107) (by decide +kernel) rfl
theorem tw5_213 : Cond.code yX11_paste cX11_paste 8 (some .int) ∈ TB := tb_in5 (i := 213) rfl rfl
theorem tw5_210 : Cond.methodLink RL 262 yX11_paste ∈ TB := tb_in5 (i := 210) (by decide +kernel) rfl
theorem tw5_211 : Cond.instanceMethod yX11_paste ∈ TB := tb_in5 (i := 211) (by decide +kernel) rfl
theorem tw5_212 : Cond.selects RX11 yX11_paste yX11_paste ∈ TB := tb_in5 (i := 212) (by decide +kernel) rfl
theorem tw6_115 : Cond.code yX12_paste cX12_paste 7 (some .int) ∈ TB := tb_in6 (i := 115) rfl rfl
theorem tw6_112 : Cond.methodLink RL 265 yX12_paste ∈ TB := tb_in6 (i := 112) (by decide +kernel) rfl
theorem tw6_113 : Cond.instanceMethod yX12_paste ∈ TB := tb_in6 (i := 113) (by decide +kernel) rfl
theorem tw6_114 : Cond.selects RX12 yX12_paste yX12_paste ∈ TB := tb_in6 (i := 114) (by decide +kernel) rfl
theorem tw1_19 : Cond.instantiable RX11 13 ∈ TB := tb_in1 (i := 19) (by decide +kernel) rfl
theorem tw5_220 : Cond.instantiable RX12 36 ∈ TB := tb_in5 (i := 220) (by decide +kernel) rfl
theorem tw1_18 : Cond.classLink RL 7 RX11 ∈ TB := tb_in1 (i := 18) (by decide +kernel) rfl
theorem tw1_22 : Cond.code yX11_init cX11_init 2 none ∈ TB := tb_in1 (i := 22) rfl rfl
theorem tw1_20 : Cond.methodLink RL 9 yX11_init ∈ TB := tb_in1 (i := 20) (by decide +kernel) rfl
theorem tw1_21 : Cond.instanceMethod yX11_init ∈ TB := tb_in1 (i := 21) (by decide +kernel) rfl
theorem tw5_219 : Cond.classLink RL 10 RX12 ∈ TB := tb_in5 (i := 219) (by decide +kernel) rfl
theorem tw5_223 : Cond.code yX12_init cX12_init 2 none ∈ TB := tb_in5 (i := 223) rfl rfl
theorem tw5_221 : Cond.methodLink RL 12 yX12_init ∈ TB := tb_in5 (i := 221) (by decide +kernel) rfl
theorem tw5_222 : Cond.instanceMethod yX12_init ∈ TB := tb_in5 (i := 222) (by decide +kernel) rfl
theorem lkX5_38 : LkN RX5 38 yX1_init cX1_init 1 0 := ⟨by decide +kernel, tw1_53, tw1_4, tw1_54, ⟨by decide, by decide, by decide⟩⟩
theorem lkX11_9 : LkN RX11 9 yX10_init cX10_init 1 0 := ⟨by decide +kernel, tw1_29, tw1_2, tw1_30, ⟨by decide, by decide, by decide⟩⟩
theorem lkX11_32 : LkN RX11 32 yX5_init cX5_init 1 0 := ⟨by decide +kernel, tw1_47, tw1_3, tw1_48, ⟨by decide, by decide, by decide⟩⟩
theorem lkX11_40 : LkN RX11 40 yX8_init cX8_init 1 0 := ⟨by decide +kernel, tw1_178, tw1_5, tw1_179, ⟨by decide, by decide, by decide⟩⟩
theorem lkX11_43 : LkI RX11 43 yX6_init cX6_init 3 2 := ⟨tw1_198, tw1_199, tw1_6, tw1_200, ⟨by decide, by decide, by decide⟩⟩
theorem lkX11_52 : LkI RX11 52 yX0_init cX0_init 2 1 := ⟨tw1_237, tw1_238, tw1_7, tw1_239, ⟨by decide, by decide, by decide⟩⟩
theorem lkX11_61 : LkI RX11 61 yX2_init cX2_init 2 1 := ⟨tw2_23, tw2_24, tw1_8, tw2_25, ⟨by decide, by decide, by decide⟩⟩
theorem lkX11_70 : LkI RX11 70 yX4_init cX4_init 2 1 := ⟨tw2_36, tw2_37, tw1_9, tw2_38, ⟨by decide, by decide, by decide⟩⟩
theorem lkX11_77 : LkI RX11 77 yX7_init cX7_init 2 1 := ⟨tw2_49, tw2_50, tw1_10, tw2_51, ⟨by decide, by decide, by decide⟩⟩
theorem lkX11_84 : LkN RX11 84 yX9_init cX9_init 1 0 := ⟨by decide +kernel, tw2_102, tw1_11, tw2_103, ⟨by decide, by decide, by decide⟩⟩
theorem lkX11_91 : LkI RX11 91 yX3_init cX3_init 2 1 := ⟨tw2_111, tw2_112, tw1_12, tw2_113, ⟨by decide, by decide, by decide⟩⟩
theorem lkX11_167 : LkS RX11 167 yX11_isAct cX11_isAct 1 (some .boolean) 1 := ⟨tw3_103, tw3_104, tw1_1, tw3_105, ⟨by decide, by decide, by decide⟩⟩
theorem lkX11_351 : LkS RX11 351 yX11_isSlot cX11_isSlot 1 (some .boolean) 1 := ⟨tw4_190, tw4_191, tw1_1, tw4_192, ⟨by decide, by decide, by decide⟩⟩
theorem lkX11_179 : LkV RX11 179 yX5_isTold cX5_isTold 1 (some .boolean) 0 := ⟨tw3_128, tw3_129, tw3_130, tw1_3, tw3_131, ⟨by decide, by decide, by decide⟩⟩
theorem lkX11_383 : LkV RX11 383 yX11_refusalOfRow cX11_refusalOfRow 3 (some .int) 2 := ⟨tw4_186, tw4_188, tws_29, tw1_1, tw4_189, ⟨by decide, by decide, by decide⟩⟩
theorem lkX11_124 : LkV RX11 124 yX5_hasPlace cX5_hasPlace 2 (some .boolean) 1 := ⟨tw3_83, tw3_71, tw3_72, tw1_3, tw3_73, ⟨by decide, by decide, by decide⟩⟩
theorem lkX11_141 : LkV RX11 141 yX5_hasExit cX5_hasExit 2 (some .boolean) 1 := ⟨tw3_88, tw3_56, tw3_57, tw1_3, tw3_58, ⟨by decide, by decide, by decide⟩⟩
theorem lkX11_156 : LkV RX11 156 yX5_hasSeat cX5_hasSeat 3 (some .boolean) 2 := ⟨tw3_93, tw3_94, tw3_95, tw1_3, tw3_96, ⟨by decide, by decide, by decide⟩⟩
theorem lkX11_243 : LkV RX11 243 yX11_refusalOfSeen cX11_refusalOfSeen 3 (some .int) 1 := ⟨tw4_182, tw4_184, tws_28, tw1_1, tw4_185, ⟨by decide, by decide, by decide⟩⟩
theorem lkX11_257 : LkV RX11 257 yX11_refusalOfFell cX11_refusalOfFell 3 (some .int) 1 := ⟨tw5_2, tw5_4, tws_31, tw1_1, tw5_5, ⟨by decide, by decide, by decide⟩⟩
theorem lkX11_226 : LkS RX11 226 yX11_isCountOfActs cX11_isCountOfActs 1 (some .boolean) 1 := ⟨tw4_115, tw4_116, tw1_1, tw4_117, ⟨by decide, by decide, by decide⟩⟩
theorem lkX11_318 : LkV RX11 318 yX11_canDraw cX11_canDraw 3 (some .boolean) 2 := ⟨tw5_132, tw5_134, tws_32, tw1_1, tw5_135, ⟨by decide, by decide, by decide⟩⟩
theorem lkX11_96 : LkV RX11 96 yX10_hasRoom cX10_hasRoom 1 (some .boolean) 0 := ⟨tw2_171, tw2_172, tw2_173, tw1_2, tw2_174, ⟨by decide, by decide, by decide⟩⟩
theorem lkX11_100 : LkV RX11 100 yX10_add cX10_add 3 none 1 := ⟨tw2_175, tw2_176, tw2_177, tw1_2, tw2_178, ⟨by decide, by decide, by decide⟩⟩
theorem lkX6_148 : LkV RX6 148 yX10_byteAt cX10_byteAt 2 (some .int) 1 := ⟨tw2_199, tw2_200, tw2_201, tw1_2, tw2_202, ⟨by decide, by decide, by decide⟩⟩
theorem lkX6_23 : LkV RX6 23 yX5_clear cX5_clear 1 none 0 := ⟨tw2_191, tw2_192, tw2_193, tw1_3, tw2_194, ⟨by decide, by decide, by decide⟩⟩
theorem lkX6_34 : LkV RX6 34 yX6_advance cX6_advance 2 none 0 := ⟨tw2_195, tw2_197, tws_0, tw1_6, tw2_198, ⟨by decide, by decide, by decide⟩⟩
theorem lkX0_38 : LkV RX0 38 yX0_turnScrews cX0_turnScrews 5 none 1 := ⟨tw3_43, tw3_45, tws_11, tw1_7, tw3_46, ⟨by decide, by decide, by decide⟩⟩
theorem lkX11_108 : LkV RX11 108 yX6_tell cX6_tell 4 (some .boolean) 1 := ⟨tw2_187, tw2_188, tw2_189, tw1_6, tw2_190, ⟨by decide, by decide, by decide⟩⟩
theorem lkX11_112 : LkV RX11 112 yX0_play cX0_play 3 none 1 := ⟨tw3_39, tw3_40, tw3_41, tw1_7, tw3_42, ⟨by decide, by decide, by decide⟩⟩
theorem lkX11_358 : LkV RX11 358 yX8_hasRow cX8_hasRow 1 (some .boolean) 0 := ⟨tw4_193, tw4_194, tw4_195, tw1_5, tw4_196, ⟨by decide, by decide, by decide⟩⟩
theorem lkX11_263 : LkS RX11 263 yJ13_bitCount_95d88 cJ13_bitCount_95d88 2 (some .int) 1 := ⟨tw5_22, tw4_60, tw1_15, tw4_61, ⟨by decide, by decide, by decide⟩⟩
theorem lkX11_344 : LkV RX11 344 yX11_slotsWithRow cX11_slotsWithRow 3 (some .int) 0 := ⟨tw5_166, tw5_168, tws_34, tw1_1, tw5_169, ⟨by decide, by decide, by decide⟩⟩
theorem lkX5_75 : LkV RX5 75 yX1_keep cX1_keep 2 none 1 := ⟨tw5_181, tw5_182, tw5_183, tw1_4, tw5_184, ⟨by decide, by decide, by decide⟩⟩
theorem lkX11_348 : LkV RX11 348 yX5_copyFrom cX5_copyFrom 2 none 1 := ⟨tw5_174, tw5_175, tw5_176, tw1_3, tw5_177, ⟨by decide, by decide, by decide⟩⟩
theorem lkX11_354 : LkV RX11 354 yX8_lay cX8_lay 4 none 2 := ⟨tw5_194, tw5_195, tw5_196, tw1_5, tw5_197, ⟨by decide, by decide, by decide⟩⟩
theorem lkX12_79 : LkS RX12 79 yX12_in cX12_in 6 (some .boolean) 3 := ⟨tw6_102, tw6_103, tw1_13, tw6_104, ⟨by decide, by decide, by decide⟩⟩
theorem lkX12_234 : LkV RX12 234 yX12_isRow cX12_isRow 3 (some .boolean) 1 := ⟨tw7_35, tw7_37, tws_64, tw1_13, tw7_38, ⟨by decide, by decide, by decide⟩⟩
theorem lkX12_237 : LkV RX12 237 yX12_isHall cX12_isHall 1 (some .boolean) 0 := ⟨tw7_47, tw7_49, tws_66, tw1_13, tw7_50, ⟨by decide, by decide, by decide⟩⟩
theorem lkX12_273 : LkV RX12 273 yX12_isAct cX12_isAct 2 (some .boolean) 1 := ⟨tw7_43, tw7_45, tws_65, tw1_13, tw7_46, ⟨by decide, by decide, by decide⟩⟩
theorem lkX12_83 : LkS RX12 83 yX12_isSlot cX12_isSlot 1 (some .boolean) 1 := ⟨tw6_98, tw6_99, tw1_13, tw6_100, ⟨by decide, by decide, by decide⟩⟩
theorem lkX12_247 : LkV RX12 247 yX12_isPlace cX12_isPlace 3 (some .boolean) 1 := ⟨tw7_11, tw7_13, tws_60, tw1_13, tw7_14, ⟨by decide, by decide, by decide⟩⟩
theorem lkX12_250 : LkV RX12 250 yX12_isExit cX12_isExit 3 (some .boolean) 1 := ⟨tw7_23, tw7_25, tws_62, tw1_13, tw7_26, ⟨by decide, by decide, by decide⟩⟩
theorem lkX12_253 : LkV RX12 253 yX12_isSeat cX12_isSeat 5 (some .boolean) 2 := ⟨tw7_31, tw7_33, tws_63, tw1_13, tw7_34, ⟨by decide, by decide, by decide⟩⟩
theorem lkX12_386 : LkV RX12 386 yX12_whyNotSeen cX12_whyNotSeen 3 (some .int) 1 := ⟨tw8_63, tw8_65, tws_97, tw1_13, tw8_66, ⟨by decide, by decide, by decide⟩⟩
theorem lkX12_398 : LkV RX12 398 yX12_whyNotFell cX12_whyNotFell 3 (some .int) 1 := ⟨tw8_91, tw8_93, tws_101, tw1_13, tw8_94, ⟨by decide, by decide, by decide⟩⟩
theorem lkX12_444 : LkV RX12 444 yX12_isDraw cX12_isDraw 3 (some .boolean) 2 := ⟨tw8_184, tw8_186, tws_109, tw1_13, tw8_187, ⟨by decide, by decide, by decide⟩⟩
theorem lkX12_94 : LkV RX12 94 yX12_four cX12_four 3 none 1 := ⟨tw6_120, tw6_122, tws_36, tw1_13, tw6_123, ⟨by decide, by decide, by decide⟩⟩
theorem lkX12_101 : LkV RX12 101 yX12_isByte cX12_isByte 4 (some .boolean) 3 := ⟨tw6_148, tw6_150, tws_40, tw1_13, tw6_151, ⟨by decide, by decide, by decide⟩⟩
theorem lkX12_136 : LkV RX12 136 yX12_next cX12_next 2 none 0 := ⟨tw6_144, tw6_146, tws_39, tw1_13, tw6_147, ⟨by decide, by decide, by decide⟩⟩
theorem lkX12_230 : LkS RX12 230 yX12_copyRow cX12_copyRow 5 none 4 := ⟨tw7_4, tw7_5, tw1_13, tw7_6, ⟨by decide, by decide, by decide⟩⟩
theorem lkX12_203 : LkV RX12 203 yX12_clears cX12_clears 2 none 0 := ⟨tw6_136, tw6_138, tws_37, tw1_13, tw6_139, ⟨by decide, by decide, by decide⟩⟩
theorem lkX12_206 : LkV RX12 206 yX12_begins cX12_begins 1 none 0 := ⟨tw6_140, tw6_142, tws_38, tw1_13, tw6_143, ⟨by decide, by decide, by decide⟩⟩
theorem lkX12_184 : LkV RX12 184 yX12_isGood cX12_isGood 1 (some .boolean) 0 := ⟨tw6_157, tw6_159, tws_41, tw1_13, tw6_160, ⟨by decide, by decide, by decide⟩⟩
theorem lkX12_223 : LkV RX12 223 yX12_isOver cX12_isOver 1 none 0 := ⟨tw6_236, tw6_238, tws_58, tw1_13, tw6_239, ⟨by decide, by decide, by decide⟩⟩
theorem lkX12_226 : LkV RX12 226 yX12_copyHall cX12_copyHall 4 none 2 := ⟨tw7_0, tw7_2, tws_59, tw1_13, tw7_3, ⟨by decide, by decide, by decide⟩⟩
theorem lkX12_357 : LkV RX12 357 yX12_sitters cX12_sitters 3 (some .int) 0 := ⟨tw8_6, tw8_8, tws_92, tw1_13, tw8_9, ⟨by decide, by decide, by decide⟩⟩
theorem lkL_13 : LkV RL 13 yX11_feed cX11_feed 6 (some .int) 5 := ⟨tw2_167, tw2_168, tw2_169, tw1_1, tw2_170, ⟨by decide, by decide, by decide⟩⟩
theorem lkL_17 : LkV RL 17 yX12_feed cX12_feed 6 (some .int) 5 := ⟨tw6_116, tw6_117, tw6_118, tw1_13, tw6_119, ⟨by decide, by decide, by decide⟩⟩
theorem lkL_18 : LkV RL 18 yX11_end cX11_end 2 (some .int) 1 := ⟨tw2_179, tw2_180, tw2_181, tw1_1, tw2_182, ⟨by decide, by decide, by decide⟩⟩
theorem lkL_22 : LkV RL 22 yX12_end cX12_end 2 (some .int) 1 := ⟨tw6_124, tw6_125, tw6_126, tw1_13, tw6_127, ⟨by decide, by decide, by decide⟩⟩
theorem lkL_23 : LkV RL 23 yX11_hall cX11_hall 2 (some .int) 0 := ⟨tw2_183, tw2_184, tw2_185, tw1_1, tw2_186, ⟨by decide, by decide, by decide⟩⟩
theorem lkL_27 : LkV RL 27 yX12_hall cX12_hall 1 (some .int) 0 := ⟨tw6_132, tw6_133, tw6_134, tw1_13, tw6_135, ⟨by decide, by decide, by decide⟩⟩
theorem lkL_28 : LkV RL 28 yX11_fault cX11_fault 2 (some .int) 1 := ⟨tw3_75, tw3_76, tw3_77, tw1_1, tw3_78, ⟨by decide, by decide, by decide⟩⟩
theorem lkL_31 : LkV RL 31 yX12_fault cX12_fault 2 (some .int) 1 := ⟨tw6_128, tw6_129, tw6_130, tw1_13, tw6_131, ⟨by decide, by decide, by decide⟩⟩
theorem lkL_32 : LkV RL 32 yX11_place cX11_place 3 (some .int) 2 := ⟨tw3_79, tw3_80, tw3_81, tw1_1, tw3_82, ⟨by decide, by decide, by decide⟩⟩
theorem lkL_36 : LkV RL 36 yX12_place cX12_place 3 (some .int) 2 := ⟨tw7_7, tw7_8, tw7_9, tw1_13, tw7_10, ⟨by decide, by decide, by decide⟩⟩
theorem lkL_37 : LkV RL 37 yX11_exit cX11_exit 3 (some .int) 2 := ⟨tw3_84, tw3_85, tw3_86, tw1_1, tw3_87, ⟨by decide, by decide, by decide⟩⟩
theorem lkL_40 : LkV RL 40 yX12_exit cX12_exit 3 (some .int) 2 := ⟨tw7_19, tw7_20, tw7_21, tw1_13, tw7_22, ⟨by decide, by decide, by decide⟩⟩
theorem lkL_41 : LkV RL 41 yX11_sits cX11_sits 3 (some .int) 2 := ⟨tw3_89, tw3_90, tw3_91, tw1_1, tw3_92, ⟨by decide, by decide, by decide⟩⟩
theorem lkL_44 : LkV RL 44 yX12_sits cX12_sits 3 (some .int) 2 := ⟨tw7_27, tw7_28, tw7_29, tw1_13, tw7_30, ⟨by decide, by decide, by decide⟩⟩
theorem lkL_45 : LkV RL 45 yX11_at cX11_at 3 (some .int) 2 := ⟨tw3_99, tw3_100, tw3_101, tw1_1, tw3_102, ⟨by decide, by decide, by decide⟩⟩
theorem lkL_48 : LkV RL 48 yX12_at cX12_at 3 (some .int) 2 := ⟨tw7_39, tw7_40, tw7_41, tw1_13, tw7_42, ⟨by decide, by decide, by decide⟩⟩
theorem lkL_49 : LkV RL 49 yX11_who cX11_who 3 (some .int) 2 := ⟨tw3_107, tw3_108, tw3_109, tw1_1, tw3_110, ⟨by decide, by decide, by decide⟩⟩
theorem lkL_52 : LkV RL 52 yX12_who cX12_who 3 (some .int) 2 := ⟨tw7_72, tw7_73, tw7_74, tw1_13, tw7_75, ⟨by decide, by decide, by decide⟩⟩
theorem lkL_53 : LkV RL 53 yX11_behind cX11_behind 3 (some .int) 2 := ⟨tw3_115, tw3_116, tw3_117, tw1_1, tw3_118, ⟨by decide, by decide, by decide⟩⟩
theorem lkL_56 : LkV RL 56 yX12_behind cX12_behind 3 (some .int) 2 := ⟨tw7_80, tw7_81, tw7_82, tw1_13, tw7_83, ⟨by decide, by decide, by decide⟩⟩
theorem lkL_57 : LkV RL 57 yX11_leads cX11_leads 3 (some .int) 2 := ⟨tw3_124, tw3_125, tw3_126, tw1_1, tw3_127, ⟨by decide, by decide, by decide⟩⟩
theorem lkL_60 : LkV RL 60 yX12_leads cX12_leads 5 (some .int) 2 := ⟨tw7_88, tw7_89, tw7_90, tw1_13, tw7_91, ⟨by decide, by decide, by decide⟩⟩
theorem lkL_61 : LkV RL 61 yX11_doubles cX11_doubles 2 (some .int) 1 := ⟨tw3_140, tw3_141, tw3_142, tw1_1, tw3_143, ⟨by decide, by decide, by decide⟩⟩
theorem lkL_64 : LkV RL 64 yX12_doubles cX12_doubles 2 (some .int) 1 := ⟨tw7_96, tw7_97, tw7_98, tw1_13, tw7_99, ⟨by decide, by decide, by decide⟩⟩
theorem lkL_65 : LkV RL 65 yX11_slip cX11_slip 2 (some .int) 0 := ⟨tw3_148, tw3_149, tw3_150, tw1_1, tw3_151, ⟨by decide, by decide, by decide⟩⟩
theorem lkL_68 : LkV RL 68 yX12_slip cX12_slip 2 (some .int) 0 := ⟨tw7_107, tw7_108, tw7_109, tw1_13, tw7_110, ⟨by decide, by decide, by decide⟩⟩
theorem lkL_69 : LkV RL 69 yX11_round cX11_round 2 (some .int) 0 := ⟨tw3_152, tw3_153, tw3_154, tw1_1, tw3_155, ⟨by decide, by decide, by decide⟩⟩
theorem lkL_72 : LkV RL 72 yX12_round cX12_round 2 (some .int) 0 := ⟨tw7_111, tw7_112, tw7_113, tw1_13, tw7_114, ⟨by decide, by decide, by decide⟩⟩
theorem lkL_73 : LkV RL 73 yX11_again cX11_again 2 (some .int) 0 := ⟨tw3_160, tw3_161, tw3_162, tw1_1, tw3_163, ⟨by decide, by decide, by decide⟩⟩
theorem lkL_76 : LkV RL 76 yX12_again cX12_again 3 (some .int) 0 := ⟨tw7_119, tw7_120, tw7_121, tw1_13, tw7_122, ⟨by decide, by decide, by decide⟩⟩
theorem lkL_77 : LkV RL 77 yX11_next cX11_next 5 (some .int) 3 := ⟨tw3_169, tw3_170, tw3_171, tw1_1, tw3_172, ⟨by decide, by decide, by decide⟩⟩
theorem lkL_81 : LkV RL 81 yX12_next_ cX12_next_ 5 (some .int) 3 := ⟨tw7_123, tw7_124, tw7_125, tw1_13, tw7_126, ⟨by decide, by decide, by decide⟩⟩
theorem lkL_82 : LkV RL 82 yX11_sees cX11_sees 4 (some .int) 1 := ⟨tw3_173, tw3_174, tw3_175, tw1_1, tw3_176, ⟨by decide, by decide, by decide⟩⟩
theorem lkL_85 : LkV RL 85 yX12_sees cX12_sees 4 (some .int) 1 := ⟨tw7_127, tw7_128, tw7_129, tw1_13, tw7_130, ⟨by decide, by decide, by decide⟩⟩
theorem lkL_86 : LkV RL 86 yX11_far cX11_far 4 (some .int) 3 := ⟨tw3_178, tw3_179, tw3_180, tw1_1, tw3_181, ⟨by decide, by decide, by decide⟩⟩
theorem lkL_89 : LkV RL 89 yX12_far cX12_far 4 (some .int) 3 := ⟨tw7_131, tw7_132, tw7_133, tw1_13, tw7_134, ⟨by decide, by decide, by decide⟩⟩
theorem lkL_90 : LkV RL 90 yX11_by cX11_by 4 (some .int) 3 := ⟨tw3_207, tw3_208, tw3_209, tw1_1, tw3_210, ⟨by decide, by decide, by decide⟩⟩
theorem lkL_93 : LkV RL 93 yX12_by cX12_by 4 (some .int) 3 := ⟨tw7_158, tw7_159, tw7_160, tw1_13, tw7_161, ⟨by decide, by decide, by decide⟩⟩
theorem lkL_94 : LkV RL 94 yX11_falls cX11_falls 4 (some .int) 3 := ⟨tw3_216, tw3_217, tw3_218, tw1_1, tw3_219, ⟨by decide, by decide, by decide⟩⟩
theorem lkL_97 : LkV RL 97 yX12_falls cX12_falls 4 (some .int) 3 := ⟨tw7_162, tw7_163, tw7_164, tw1_13, tw7_165, ⟨by decide, by decide, by decide⟩⟩
theorem lkL_98 : LkV RL 98 yX11_best cX11_best 2 (some .int) 1 := ⟨tw3_224, tw3_225, tw3_226, tw1_1, tw3_227, ⟨by decide, by decide, by decide⟩⟩
theorem lkL_101 : LkV RL 101 yX12_best cX12_best 7 (some .int) 1 := ⟨tw7_170, tw7_171, tw7_172, tw1_13, tw7_173, ⟨by decide, by decide, by decide⟩⟩
theorem lkL_102 : LkV RL 102 yX11_worst cX11_worst 2 (some .int) 1 := ⟨tw3_232, tw3_233, tw3_234, tw1_1, tw3_235, ⟨by decide, by decide, by decide⟩⟩
theorem lkL_105 : LkV RL 105 yX12_worst cX12_worst 2 (some .int) 1 := ⟨tw7_174, tw7_175, tw7_176, tw1_13, tw7_177, ⟨by decide, by decide, by decide⟩⟩
theorem lkL_106 : LkV RL 106 yX11_kept cX11_kept 2 (some .int) 1 := ⟨tw4_3, tw4_4, tw4_5, tw1_1, tw4_6, ⟨by decide, by decide, by decide⟩⟩
theorem lkL_109 : LkV RL 109 yX12_kept cX12_kept 2 (some .int) 1 := ⟨tw7_182, tw7_183, tw7_184, tw1_13, tw7_185, ⟨by decide, by decide, by decide⟩⟩
theorem lkL_110 : LkV RL 110 yX11_breaks cX11_breaks 3 (some .int) 1 := ⟨tw4_12, tw4_13, tw4_14, tw1_1, tw4_15, ⟨by decide, by decide, by decide⟩⟩
theorem lkL_113 : LkV RL 113 yX12_breaks cX12_breaks 3 (some .int) 1 := ⟨tw7_190, tw7_191, tw7_192, tw1_13, tw7_193, ⟨by decide, by decide, by decide⟩⟩
theorem lkL_114 : LkV RL 114 yX11_screws cX11_screws 3 (some .int) 1 := ⟨tw4_16, tw4_17, tw4_18, tw1_1, tw4_19, ⟨by decide, by decide, by decide⟩⟩
theorem lkL_117 : LkV RL 117 yX12_screws cX12_screws 3 (some .int) 1 := ⟨tw7_194, tw7_195, tw7_196, tw1_13, tw7_197, ⟨by decide, by decide, by decide⟩⟩
theorem lkL_118 : LkV RL 118 yX11_lawful cX11_lawful 3 (some .int) 0 := ⟨tw4_20, tw4_21, tw4_22, tw1_1, tw4_23, ⟨by decide, by decide, by decide⟩⟩
theorem lkL_121 : LkV RL 121 yX12_lawful cX12_lawful 3 (some .int) 0 := ⟨tw7_198, tw7_199, tw7_200, tw1_13, tw7_201, ⟨by decide, by decide, by decide⟩⟩
theorem lkL_122 : LkV RL 122 yX11_out cX11_out 3 (some .int) 2 := ⟨tw4_24, tw4_25, tw4_26, tw1_1, tw4_27, ⟨by decide, by decide, by decide⟩⟩
theorem lkL_125 : LkV RL 125 yX12_out cX12_out 3 (some .int) 2 := ⟨tw7_202, tw7_203, tw7_204, tw1_13, tw7_205, ⟨by decide, by decide, by decide⟩⟩
theorem lkL_126 : LkV RL 126 yX11_soonest cX11_soonest 2 (some .int) 1 := ⟨tw4_98, tw4_99, tw4_100, tw1_1, tw4_101, ⟨by decide, by decide, by decide⟩⟩
theorem lkL_129 : LkV RL 129 yX12_soonest cX12_soonest 2 (some .int) 1 := ⟨tw7_238, tw7_239, tw8_0, tw1_13, tw8_1, ⟨by decide, by decide, by decide⟩⟩
theorem lkL_130 : LkV RL 130 yX11_quickest cX11_quickest 6 (some .int) 1 := ⟨tw4_111, tw4_112, tw4_113, tw1_1, tw4_114, ⟨by decide, by decide, by decide⟩⟩
theorem lkL_133 : LkV RL 133 yX12_quickest cX12_quickest 6 (some .int) 1 := ⟨tw8_10, tw8_11, tw8_12, tw1_13, tw8_13, ⟨by decide, by decide, by decide⟩⟩
theorem lkL_134 : LkV RL 134 yX11_wider cX11_wider 4 (some .int) 3 := ⟨tw4_118, tw4_119, tw4_120, tw1_1, tw4_121, ⟨by decide, by decide, by decide⟩⟩
theorem lkL_137 : LkV RL 137 yX12_wider cX12_wider 5 (some .int) 3 := ⟨tw8_15, tw8_16, tw8_17, tw1_13, tw8_18, ⟨by decide, by decide, by decide⟩⟩
theorem lkL_138 : LkV RL 138 yX11_stand cX11_stand 2 (some .int) 1 := ⟨tw4_122, tw4_123, tw4_124, tw1_1, tw4_125, ⟨by decide, by decide, by decide⟩⟩
theorem lkL_141 : LkV RL 141 yX12_stand cX12_stand 3 (some .int) 1 := ⟨tw8_19, tw8_20, tw8_21, tw1_13, tw8_22, ⟨by decide, by decide, by decide⟩⟩
theorem lkL_142 : LkV RL 142 yX11_stands cX11_stands 3 (some .int) 1 := ⟨tw4_153, tw4_154, tw4_155, tw1_1, tw4_156, ⟨by decide, by decide, by decide⟩⟩
theorem lkL_145 : LkV RL 145 yX12_stands cX12_stands 2 (some .int) 1 := ⟨tw8_39, tw8_40, tw8_41, tw1_13, tw8_42, ⟨by decide, by decide, by decide⟩⟩
theorem lkL_146 : LkV RL 146 yX11_needs cX11_needs 2 (some .int) 0 := ⟨tw4_158, tw4_159, tw4_160, tw1_1, tw4_161, ⟨by decide, by decide, by decide⟩⟩
theorem lkL_149 : LkV RL 149 yX12_needs cX12_needs 2 (some .int) 0 := ⟨tw8_43, tw8_44, tw8_45, tw1_13, tw8_46, ⟨by decide, by decide, by decide⟩⟩
theorem lkL_150 : LkV RL 150 yX11_wind cX11_wind 2 (some .int) 1 := ⟨tw4_162, tw4_163, tw4_164, tw1_1, tw4_165, ⟨by decide, by decide, by decide⟩⟩
theorem lkL_153 : LkV RL 153 yX12_wind cX12_wind 2 (some .int) 1 := ⟨tw8_47, tw8_48, tw8_49, tw1_13, tw8_50, ⟨by decide, by decide, by decide⟩⟩
theorem lkL_154 : LkV RL 154 yX11_calmest cX11_calmest 6 (some .int) 1 := ⟨tw4_174, tw4_175, tw4_176, tw1_1, tw4_177, ⟨by decide, by decide, by decide⟩⟩
theorem lkL_157 : LkV RL 157 yX12_calmest cX12_calmest 4 (some .int) 1 := ⟨tw8_55, tw8_56, tw8_57, tw1_13, tw8_58, ⟨by decide, by decide, by decide⟩⟩
theorem lkL_158 : LkV RL 158 yX11_seen cX11_seen 3 (some .long) 1 := ⟨tw4_178, tw4_179, tw4_180, tw1_1, tw4_181, ⟨by decide, by decide, by decide⟩⟩
theorem lkL_162 : LkV RL 162 yX12_seen cX12_seen 6 (some .long) 1 := ⟨tw8_59, tw8_60, tw8_61, tw1_13, tw8_62, ⟨by decide, by decide, by decide⟩⟩
theorem lkL_163 : LkV RL 163 yX11_ask cX11_ask 3 (some .int) 1 := ⟨tw4_215, tw4_216, tw4_217, tw1_1, tw4_218, ⟨by decide, by decide, by decide⟩⟩
theorem lkL_166 : LkV RL 166 yX12_ask cX12_ask 3 (some .int) 1 := ⟨tw8_75, tw8_76, tw8_77, tw1_13, tw8_78, ⟨by decide, by decide, by decide⟩⟩
theorem lkL_167 : LkV RL 167 yX11_leaves cX11_leaves 3 (some .int) 1 := ⟨tw4_229, tw4_230, tw4_231, tw1_1, tw4_232, ⟨by decide, by decide, by decide⟩⟩
theorem lkL_170 : LkV RL 170 yX12_leaves cX12_leaves 3 (some .int) 1 := ⟨tw8_83, tw8_84, tw8_85, tw1_13, tw8_86, ⟨by decide, by decide, by decide⟩⟩
theorem lkL_171 : LkV RL 171 yX11_fell cX11_fell 3 (some .long) 1 := ⟨tw4_238, tw4_239, tw5_0, tw1_1, tw5_1, ⟨by decide, by decide, by decide⟩⟩
theorem lkL_174 : LkV RL 174 yX12_fell cX12_fell 6 (some .long) 1 := ⟨tw8_87, tw8_88, tw8_89, tw1_13, tw8_90, ⟨by decide, by decide, by decide⟩⟩
theorem lkL_175 : LkV RL 175 yX11_many cX11_many 3 (some .int) 1 := ⟨tw5_18, tw5_19, tw5_20, tw1_1, tw5_21, ⟨by decide, by decide, by decide⟩⟩
theorem lkL_178 : LkV RL 178 yX12_many cX12_many 5 (some .int) 1 := ⟨tw8_99, tw8_100, tw8_101, tw1_13, tw8_102, ⟨by decide, by decide, by decide⟩⟩
theorem lkL_179 : LkV RL 179 yX11_sure cX11_sure 4 (some .int) 2 := ⟨tw5_23, tw5_24, tw5_25, tw1_1, tw5_26, ⟨by decide, by decide, by decide⟩⟩
theorem lkL_182 : LkV RL 182 yX12_sure cX12_sure 6 (some .int) 2 := ⟨tw8_103, tw8_104, tw8_105, tw1_13, tw8_106, ⟨by decide, by decide, by decide⟩⟩
theorem lkL_183 : LkV RL 183 yX11_known cX11_known 4 (some .int) 3 := ⟨tw5_31, tw5_32, tw5_33, tw1_1, tw5_34, ⟨by decide, by decide, by decide⟩⟩
theorem lkL_186 : LkV RL 186 yX12_known cX12_known 4 (some .int) 3 := ⟨tw8_107, tw8_108, tw8_109, tw1_13, tw8_110, ⟨by decide, by decide, by decide⟩⟩
theorem lkL_187 : LkV RL 187 yX11_blind cX11_blind 5 (some .int) 3 := ⟨tw5_40, tw5_41, tw5_42, tw1_1, tw5_43, ⟨by decide, by decide, by decide⟩⟩
theorem lkL_190 : LkV RL 190 yX12_blind cX12_blind 4 (some .int) 3 := ⟨tw8_115, tw8_116, tw8_117, tw1_13, tw8_118, ⟨by decide, by decide, by decide⟩⟩
theorem lkL_191 : LkV RL 191 yX11_goes cX11_goes 4 (some .int) 3 := ⟨tw5_61, tw5_62, tw5_63, tw1_1, tw5_64, ⟨by decide, by decide, by decide⟩⟩
theorem lkL_194 : LkV RL 194 yX12_goes cX12_goes 4 (some .int) 3 := ⟨tw8_127, tw8_128, tw8_129, tw1_13, tw8_130, ⟨by decide, by decide, by decide⟩⟩
theorem lkL_195 : LkV RL 195 yX11_worth cX11_worth 4 (some .int) 1 := ⟨tw5_65, tw5_66, tw5_67, tw1_1, tw5_68, ⟨by decide, by decide, by decide⟩⟩
theorem lkL_198 : LkV RL 198 yX12_worth cX12_worth 4 (some .int) 1 := ⟨tw8_131, tw8_132, tw8_133, tw1_13, tw8_134, ⟨by decide, by decide, by decide⟩⟩
theorem lkL_199 : LkV RL 199 yX11_lured cX11_lured 3 (some .int) 2 := ⟨tw5_69, tw5_70, tw5_71, tw1_1, tw5_72, ⟨by decide, by decide, by decide⟩⟩
theorem lkL_202 : LkV RL 202 yX12_lured cX12_lured 3 (some .int) 2 := ⟨tw8_135, tw8_136, tw8_137, tw1_13, tw8_138, ⟨by decide, by decide, by decide⟩⟩
theorem lkL_203 : LkV RL 203 yX11_danger cX11_danger 6 (some .int) 1 := ⟨tw5_79, tw5_80, tw5_81, tw1_1, tw5_82, ⟨by decide, by decide, by decide⟩⟩
theorem lkL_206 : LkV RL 206 yX12_danger cX12_danger 4 (some .int) 1 := ⟨tw8_143, tw8_144, tw8_145, tw1_13, tw8_146, ⟨by decide, by decide, by decide⟩⟩
theorem lkL_207 : LkV RL 207 yX11_claque cX11_claque 3 (some .int) 2 := ⟨tw5_83, tw5_84, tw5_85, tw1_1, tw5_86, ⟨by decide, by decide, by decide⟩⟩
theorem lkL_210 : LkV RL 210 yX12_claque cX12_claque 3 (some .int) 2 := ⟨tw8_147, tw8_148, tw8_149, tw1_13, tw8_150, ⟨by decide, by decide, by decide⟩⟩
theorem lkL_211 : LkV RL 211 yX11_lastly cX11_lastly 4 (some .int) 2 := ⟨tw5_93, tw5_94, tw5_95, tw1_1, tw5_96, ⟨by decide, by decide, by decide⟩⟩
theorem lkL_214 : LkV RL 214 yX12_lastly cX12_lastly 3 (some .int) 2 := ⟨tw8_155, tw8_156, tw8_157, tw1_13, tw8_158, ⟨by decide, by decide, by decide⟩⟩
theorem lkL_215 : LkV RL 215 yX11_screw cX11_screw 4 (some .int) 2 := ⟨tw5_97, tw5_98, tw5_99, tw1_1, tw5_100, ⟨by decide, by decide, by decide⟩⟩
theorem lkL_218 : LkV RL 218 yX12_screw cX12_screw 4 (some .int) 2 := ⟨tw8_159, tw8_160, tw8_161, tw1_13, tw8_162, ⟨by decide, by decide, by decide⟩⟩
theorem lkL_219 : LkV RL 219 yX11_king cX11_king 5 (some .int) 3 := ⟨tw5_110, tw5_111, tw5_112, tw1_1, tw5_113, ⟨by decide, by decide, by decide⟩⟩
theorem lkL_222 : LkV RL 222 yX12_king cX12_king 5 (some .int) 3 := ⟨tw8_168, tw8_169, tw8_170, tw1_13, tw8_171, ⟨by decide, by decide, by decide⟩⟩
theorem lkL_223 : LkV RL 223 yX11_seats cX11_seats 6 (some .int) 3 := ⟨tw5_114, tw5_115, tw5_116, tw1_1, tw5_117, ⟨by decide, by decide, by decide⟩⟩
theorem lkL_226 : LkV RL 226 yX12_seats cX12_seats 5 (some .int) 3 := ⟨tw8_172, tw8_173, tw8_174, tw1_13, tw8_175, ⟨by decide, by decide, by decide⟩⟩
theorem lkL_227 : LkV RL 227 yX11_undo cX11_undo 1 (some .int) 0 := ⟨tw5_119, tw5_120, tw5_121, tw1_1, tw5_122, ⟨by decide, by decide, by decide⟩⟩
theorem lkL_230 : LkV RL 230 yX12_undo cX12_undo 3 (some .int) 0 := ⟨tw8_176, tw8_177, tw8_178, tw1_13, tw8_179, ⟨by decide, by decide, by decide⟩⟩
theorem lkL_231 : LkV RL 231 yX11_drawn cX11_drawn 4 (some .int) 3 := ⟨tw5_128, tw5_129, tw5_130, tw1_1, tw5_131, ⟨by decide, by decide, by decide⟩⟩
theorem lkL_234 : LkV RL 234 yX12_drawn cX12_drawn 4 (some .int) 3 := ⟨tw8_180, tw8_181, tw8_182, tw1_13, tw8_183, ⟨by decide, by decide, by decide⟩⟩
theorem lkL_235 : LkV RL 235 yX11_lucky cX11_lucky 6 (some .int) 3 := ⟨tw5_154, tw5_155, tw5_156, tw1_1, tw5_157, ⟨by decide, by decide, by decide⟩⟩
theorem lkL_238 : LkV RL 238 yX12_lucky cX12_lucky 6 (some .int) 3 := ⟨tw8_198, tw8_199, tw8_200, tw1_13, tw8_201, ⟨by decide, by decide, by decide⟩⟩
theorem lkL_239 : LkV RL 239 yX11_count cX11_count 2 (some .int) 1 := ⟨tw5_162, tw5_163, tw5_164, tw1_1, tw5_165, ⟨by decide, by decide, by decide⟩⟩
theorem lkL_242 : LkV RL 242 yX12_count cX12_count 4 (some .int) 1 := ⟨tw8_202, tw8_203, tw8_204, tw1_13, tw8_205, ⟨by decide, by decide, by decide⟩⟩
theorem lkL_243 : LkV RL 243 yX11_image cX11_image 2 (some .int) 1 := ⟨tw5_170, tw5_171, tw5_172, tw1_1, tw5_173, ⟨by decide, by decide, by decide⟩⟩
theorem lkL_246 : LkV RL 246 yX12_image cX12_image 2 (some .int) 1 := ⟨tw8_206, tw8_207, tw8_208, tw1_13, tw8_209, ⟨by decide, by decide, by decide⟩⟩
theorem lkL_247 : LkV RL 247 yX11_back cX11_back 2 (some .int) 1 := ⟨tw5_186, tw5_187, tw5_188, tw1_1, tw5_189, ⟨by decide, by decide, by decide⟩⟩
theorem lkL_250 : LkV RL 250 yX12_back cX12_back 2 (some .int) 1 := ⟨tw8_211, tw8_212, tw8_213, tw1_13, tw8_214, ⟨by decide, by decide, by decide⟩⟩
theorem lkL_251 : LkV RL 251 yX11_row cX11_row 4 (some .int) 3 := ⟨tw5_190, tw5_191, tw5_192, tw1_1, tw5_193, ⟨by decide, by decide, by decide⟩⟩
theorem lkL_254 : LkV RL 254 yX12_row cX12_row 5 (some .int) 3 := ⟨tw6_94, tw6_95, tw6_96, tw1_13, tw6_97, ⟨by decide, by decide, by decide⟩⟩
theorem lkL_257 : LkV RL 257 yX11_write cX11_write 6 (some .int) 3 := ⟨tw5_198, tw5_199, tw5_200, tw1_1, tw5_201, ⟨by decide, by decide, by decide⟩⟩
theorem lkL_261 : LkV RL 261 yX12_write cX12_write 5 (some .int) 3 := ⟨tw6_105, tw6_106, tw6_107, tw1_13, tw6_108, ⟨by decide, by decide, by decide⟩⟩
theorem lkL_262 : LkV RL 262 yX11_paste cX11_paste 8 (some .int) 5 := ⟨tw5_210, tw5_211, tw5_212, tw1_1, tw5_213, ⟨by decide, by decide, by decide⟩⟩
theorem lkL_265 : LkV RL 265 yX12_paste cX12_paste 7 (some .int) 5 := ⟨tw6_112, tw6_113, tw6_114, tw1_13, tw6_115, ⟨by decide, by decide, by decide⟩⟩
theorem lkL_9 : LkI RL 9 yX11_init cX11_init 2 0 := ⟨tw1_20, tw1_21, tw1_1, tw1_22, ⟨by decide, by decide, by decide⟩⟩
theorem lkL_12 : LkI RL 12 yX12_init cX12_init 2 0 := ⟨tw5_221, tw5_222, tw1_13, tw5_223, ⟨by decide, by decide, by decide⟩⟩
