set_option maxRecDepth 20000 in
theorem twz_0 : Cond.code yX10_init cX10_init 1 none ∈ lw_tbl := tk_1 (j := 28) rfl
set_option maxRecDepth 20000 in
theorem twz_1 : Cond.initialized RX0 ∈ lw_tbl := tk_1 (j := 7) rfl
set_option maxRecDepth 20000 in
theorem twz_2 : Cond.instantiable RX0 9 ∈ lw_tbl := tk_1 (j := 237) rfl
set_option maxRecDepth 20000 in
theorem twz_3 : Cond.classLink RX10 45 RX0 ∈ lw_tbl := tk_1 (j := 236) rfl
set_option maxRecDepth 20000 in
theorem twz_4 : Cond.fieldLink RX10 41 "NotAtOnce" "fraction" "LNotAtOnce$Fraction;" ∈ lw_tbl := tk_2 (j := 193) rfl
set_option maxRecDepth 20000 in
theorem twz_5 : Cond.initialized RX2 ∈ lw_tbl := tk_1 (j := 6) rfl
set_option maxRecDepth 20000 in
theorem twz_6 : Cond.instantiable RX2 2 ∈ lw_tbl := tk_1 (j := 224) rfl
set_option maxRecDepth 20000 in
theorem twz_7 : Cond.classLink RX10 38 RX2 ∈ lw_tbl := tk_1 (j := 223) rfl
set_option maxRecDepth 20000 in
theorem twz_8 : Cond.fieldLink RX10 34 "NotAtOnce" "rings" "LNotAtOnce$Rings;" ∈ lw_tbl := tk_2 (j := 187) rfl
set_option maxRecDepth 20000 in
theorem twz_9 : Cond.initialized RX7 ∈ lw_tbl := tk_1 (j := 5) rfl
set_option maxRecDepth 20000 in
theorem twz_10 : Cond.instantiable RX7 1 ∈ lw_tbl := tk_1 (j := 214) rfl
set_option maxRecDepth 20000 in
theorem twz_11 : Cond.classLink RX10 29 RX7 ∈ lw_tbl := tk_1 (j := 213) rfl
set_option maxRecDepth 20000 in
theorem twz_12 : Cond.fieldLink RX10 25 "NotAtOnce" "table" "LNotAtOnce$Table;" ∈ lw_tbl := tk_2 (j := 186) rfl
set_option maxRecDepth 20000 in
theorem twz_13 : Cond.initialized RX8 ∈ lw_tbl := tk_1 (j := 4) rfl
set_option maxRecDepth 20000 in
theorem twz_14 : Cond.instantiable RX8 8 ∈ lw_tbl := tk_1 (j := 168) rfl
set_option maxRecDepth 20000 in
theorem twz_15 : Cond.classLink RX10 22 RX8 ∈ lw_tbl := tk_1 (j := 167) rfl
set_option maxRecDepth 20000 in
theorem twz_16 : Cond.fieldLink RX10 18 "NotAtOnce" "reader" "LNotAtOnce$Reader;" ∈ lw_tbl := tk_2 (j := 185) rfl
set_option maxRecDepth 20000 in
theorem twz_17 : Cond.initialized RX6 ∈ lw_tbl := tk_1 (j := 2) rfl
set_option maxRecDepth 20000 in
theorem twz_18 : Cond.instantiable RX6 12 ∈ lw_tbl := tk_1 (j := 33) rfl
set_option maxRecDepth 20000 in
theorem twz_19 : Cond.classLink RX10 13 RX6 ∈ lw_tbl := tk_1 (j := 32) rfl
set_option maxRecDepth 20000 in
theorem twz_20 : Cond.fieldLink RX10 9 "NotAtOnce" "tape" "[I" ∈ lw_tbl := tk_2 (j := 184) rfl
set_option maxRecDepth 20000 in
theorem twz_21 : Cond.arrayClass .int ∈ lw_tbl := tk_1 (j := 125) rfl
set_option maxRecDepth 20000 in
theorem twz_22 : Cond.code objectInit ⟨#[0xb1]⟩ 1 none ∈ lw_tbl := by decide +kernel
set_option maxRecDepth 20000 in
theorem twz_23 : Cond.instanceMethod objectInit ∈ lw_tbl := tk_1 (j := 30) rfl
set_option maxRecDepth 20000 in
theorem twz_24 : Cond.methodLink RX10 1 objectInit ∈ lw_tbl := tk_1 (j := 29) rfl
set_option maxRecDepth 20000 in
theorem twz_25 : Cond.initialized RX1 ∈ lw_tbl := tk_1 (j := 3) rfl
set_option maxRecDepth 20000 in
theorem twz_26 : Cond.instantiable RX1 16 ∈ lw_tbl := tk_1 (j := 39) rfl
set_option maxRecDepth 20000 in
theorem twz_27 : Cond.classLink RX6 9 RX1 ∈ lw_tbl := tk_1 (j := 38) rfl
set_option maxRecDepth 20000 in
theorem twz_28 : Cond.methodLink RX6 3 objectInit ∈ lw_tbl := tk_1 (j := 37) rfl
set_option maxRecDepth 20000 in
theorem twz_29 : Cond.code yX6_init cX6_init 2 none ∈ lw_tbl := tk_1 (j := 36) rfl
set_option maxRecDepth 20000 in
theorem twz_30 : Cond.instanceMethod yX6_init ∈ lw_tbl := tk_1 (j := 35) rfl
set_option maxRecDepth 20000 in
theorem twz_31 : Cond.methodLink RX10 15 yX6_init ∈ lw_tbl := tk_1 (j := 34) rfl
set_option maxRecDepth 20000 in
theorem twz_32 : Cond.fieldLink RX10 78 "NotAtOnce" "history" "LNotAtOnce$History;" ∈ lw_tbl := tk_2 (j := 192) rfl
set_option maxRecDepth 20000 in
theorem twz_33 : Cond.initialized RX4 ∈ lw_tbl := tk_1 (j := 11) rfl
set_option maxRecDepth 20000 in
theorem twz_34 : Cond.instantiable RX4 7 ∈ lw_tbl := tk_2 (j := 151) rfl
set_option maxRecDepth 20000 in
theorem twz_35 : Cond.classLink RX10 75 RX4 ∈ lw_tbl := tk_2 (j := 150) rfl
set_option maxRecDepth 20000 in
theorem twz_36 : Cond.fieldLink RX10 71 "NotAtOnce" "telling" "LNotAtOnce$Telling;" ∈ lw_tbl := tk_2 (j := 191) rfl
set_option maxRecDepth 20000 in
theorem twz_37 : Cond.initialized RX9 ∈ lw_tbl := tk_1 (j := 10) rfl
set_option maxRecDepth 20000 in
theorem twz_38 : Cond.instantiable RX9 10 ∈ lw_tbl := tk_2 (j := 112) rfl
set_option maxRecDepth 20000 in
theorem twz_39 : Cond.classLink RX10 68 RX9 ∈ lw_tbl := tk_2 (j := 111) rfl
set_option maxRecDepth 20000 in
theorem twz_40 : Cond.fieldLink RX10 64 "NotAtOnce" "frames" "LNotAtOnce$Frames;" ∈ lw_tbl := tk_2 (j := 190) rfl
set_option maxRecDepth 20000 in
theorem twz_41 : Cond.initialized RX3 ∈ lw_tbl := tk_1 (j := 9) rfl
set_option maxRecDepth 20000 in
theorem twz_42 : Cond.instantiable RX3 12 ∈ lw_tbl := tk_2 (j := 62) rfl
set_option maxRecDepth 20000 in
theorem twz_43 : Cond.classLink RX10 61 RX3 ∈ lw_tbl := tk_2 (j := 61) rfl
set_option maxRecDepth 20000 in
theorem twz_44 : Cond.fieldLink RX10 57 "NotAtOnce" "parities" "LNotAtOnce$Parities;" ∈ lw_tbl := tk_2 (j := 189) rfl
set_option maxRecDepth 20000 in
theorem twz_45 : Cond.initialized RX5 ∈ lw_tbl := tk_1 (j := 8) rfl
set_option maxRecDepth 20000 in
theorem twz_46 : Cond.instantiable RX5 6 ∈ lw_tbl := tk_2 (j := 33) rfl
set_option maxRecDepth 20000 in
theorem twz_47 : Cond.classLink RX10 54 RX5 ∈ lw_tbl := tk_2 (j := 32) rfl
set_option maxRecDepth 20000 in
theorem twz_48 : Cond.fieldLink RX10 50 "NotAtOnce" "blend" "LNotAtOnce$Blend;" ∈ lw_tbl := tk_2 (j := 188) rfl
set_option maxRecDepth 20000 in
theorem twz_49 : Cond.fieldLink RX8 21 "NotAtOnce$Table" "coins" "[I" ∈ lw_tbl := tk_1 (j := 194) rfl
set_option maxRecDepth 20000 in
theorem twz_50 : Cond.fieldLink RX8 18 "NotAtOnce$Table" "times" "[I" ∈ lw_tbl := tk_1 (j := 191) rfl
set_option maxRecDepth 20000 in
theorem twz_51 : Cond.fieldLink RX8 15 "NotAtOnce$Table" "second" "[I" ∈ lw_tbl := tk_1 (j := 188) rfl
set_option maxRecDepth 20000 in
theorem twz_52 : Cond.fieldLink RX8 9 "NotAtOnce$Table" "first" "[I" ∈ lw_tbl := tk_1 (j := 185) rfl
set_option maxRecDepth 20000 in
theorem twz_53 : Cond.methodLink RX8 3 objectInit ∈ lw_tbl := tk_1 (j := 172) rfl
set_option maxRecDepth 20000 in
theorem twz_54 : Cond.code yX8_init cX8_init 1 none ∈ lw_tbl := tk_1 (j := 171) rfl
set_option maxRecDepth 20000 in
theorem twz_55 : Cond.instanceMethod yX8_init ∈ lw_tbl := tk_1 (j := 170) rfl
set_option maxRecDepth 20000 in
theorem twz_56 : Cond.fieldLink RX1 36 "NotAtOnce$Draft" "stepTold" "[I" ∈ lw_tbl := tk_1 (j := 89) rfl
set_option maxRecDepth 20000 in
theorem twz_57 : Cond.fieldLink RX1 33 "NotAtOnce$Draft" "stepLook" "[I" ∈ lw_tbl := tk_1 (j := 86) rfl
set_option maxRecDepth 20000 in
theorem twz_58 : Cond.fieldLink RX1 30 "NotAtOnce$Draft" "runLength" "[I" ∈ lw_tbl := tk_1 (j := 83) rfl
set_option maxRecDepth 20000 in
theorem twz_59 : Cond.fieldLink RX1 27 "NotAtOnce$Draft" "rayParts" "[I" ∈ lw_tbl := tk_1 (j := 80) rfl
set_option maxRecDepth 20000 in
theorem twz_60 : Cond.fieldLink RX1 24 "NotAtOnce$Draft" "lineSum" "[I" ∈ lw_tbl := tk_1 (j := 77) rfl
set_option maxRecDepth 20000 in
theorem twz_61 : Cond.fieldLink RX1 21 "NotAtOnce$Draft" "lineBits" "[I" ∈ lw_tbl := tk_1 (j := 74) rfl
set_option maxRecDepth 20000 in
theorem twz_62 : Cond.fieldLink RX1 18 "NotAtOnce$Draft" "times" "[I" ∈ lw_tbl := tk_1 (j := 71) rfl
set_option maxRecDepth 20000 in
theorem twz_63 : Cond.fieldLink RX1 15 "NotAtOnce$Draft" "second" "[I" ∈ lw_tbl := tk_1 (j := 68) rfl
set_option maxRecDepth 20000 in
theorem twz_64 : Cond.fieldLink RX1 9 "NotAtOnce$Draft" "first" "[I" ∈ lw_tbl := tk_1 (j := 65) rfl
set_option maxRecDepth 20000 in
theorem twz_65 : Cond.methodLink RX1 3 objectInit ∈ lw_tbl := tk_1 (j := 43) rfl
set_option maxRecDepth 20000 in
theorem twz_66 : Cond.code yX1_init cX1_init 1 none ∈ lw_tbl := tk_1 (j := 42) rfl
set_option maxRecDepth 20000 in
theorem twz_67 : Cond.instanceMethod yX1_init ∈ lw_tbl := tk_1 (j := 41) rfl
set_option maxRecDepth 20000 in
theorem twz_68 : Cond.fieldLink RX6 25 "NotAtOnce$Reader" "bytes" "[I" ∈ lw_tbl := tk_1 (j := 132) rfl
set_option maxRecDepth 20000 in
theorem twz_69 : Cond.fieldLink RX6 22 "NotAtOnce$Reader" "pointNames" "[J" ∈ lw_tbl := tk_1 (j := 134) rfl
set_option maxRecDepth 20000 in
theorem twz_70 : Cond.fieldLink RX6 18 "NotAtOnce$Reader" "lookNames" "[J" ∈ lw_tbl := tk_1 (j := 133) rfl
set_option maxRecDepth 20000 in
theorem twz_71 : Cond.arrayClass .long ∈ lw_tbl := tk_1 (j := 166) rfl
set_option maxRecDepth 20000 in
theorem twz_72 : Cond.fieldLink RX6 12 "NotAtOnce$Reader" "draft" "LNotAtOnce$Draft;" ∈ lw_tbl := tk_1 (j := 126) rfl
set_option maxRecDepth 20000 in
theorem twz_73 : Cond.code yX5_init cX5_init 1 none ∈ lw_tbl := tk_2 (j := 36) rfl
set_option maxRecDepth 20000 in
theorem twz_74 : Cond.instanceMethod yX5_init ∈ lw_tbl := tk_2 (j := 35) rfl
set_option maxRecDepth 20000 in
theorem twz_75 : Cond.fieldLink RX0 41 "NotAtOnce$Blend" "solved" "I" ∈ lw_tbl := tk_2 (j := 12) rfl
set_option maxRecDepth 20000 in
theorem twz_76 : Cond.fieldLink RX0 35 "NotAtOnce$Table" "version" "I" ∈ lw_tbl := tk_1 (j := 183) rfl
set_option maxRecDepth 20000 in
theorem twz_77 : Cond.fieldLink RX0 31 "NotAtOnce$Blend" "fraction" "LNotAtOnce$Fraction;" ∈ lw_tbl := tk_2 (j := 5) rfl
set_option maxRecDepth 20000 in
theorem twz_78 : Cond.fieldLink RX0 27 "NotAtOnce$Blend" "table" "LNotAtOnce$Table;" ∈ lw_tbl := tk_2 (j := 4) rfl
set_option maxRecDepth 20000 in
theorem twz_79 : Cond.fieldLink RX0 23 "NotAtOnce$Blend" "scale" "J" ∈ lw_tbl := tk_2 (j := 11) rfl
set_option maxRecDepth 20000 in
theorem twz_80 : Cond.fieldLink RX0 20 "NotAtOnce$Blend" "columnNames" "[I" ∈ lw_tbl := tk_2 (j := 8) rfl
set_option maxRecDepth 20000 in
theorem twz_81 : Cond.fieldLink RX0 16 "NotAtOnce$Blend" "rowNames" "[I" ∈ lw_tbl := tk_2 (j := 7) rfl
set_option maxRecDepth 20000 in
theorem twz_82 : Cond.fieldLink RX0 13 "NotAtOnce$Blend" "cells" "[[J" ∈ lw_tbl := tk_2 (j := 6) rfl
set_option maxRecDepth 20000 in
theorem twz_83 : Cond.classLink RX0 11 "[[J" ∈ lw_tbl := tk_2 (j := 2) rfl
set_option maxRecDepth 20000 in
theorem twz_84 : Cond.methodLink RX0 5 objectInit ∈ lw_tbl := tk_2 (j := 1) rfl
set_option maxRecDepth 20000 in
theorem twz_85 : Cond.code yX0_init cX0_init 3 none ∈ lw_tbl := tk_2 (j := 0) rfl
set_option maxRecDepth 20000 in
theorem twz_86 : Cond.instanceMethod yX0_init ∈ lw_tbl := tk_1 (j := 239) rfl
set_option maxRecDepth 20000 in
theorem twz_87 : Cond.methodLink RX10 47 yX0_init ∈ lw_tbl := tk_1 (j := 238) rfl
set_option maxRecDepth 20000 in
theorem twz_88 : Cond.fieldLink RX2 7 "NotAtOnce$Fraction" "lower" "J" ∈ lw_tbl := tk_1 (j := 230) rfl
set_option maxRecDepth 20000 in
theorem twz_89 : Cond.methodLink RX2 1 objectInit ∈ lw_tbl := tk_1 (j := 228) rfl
set_option maxRecDepth 20000 in
theorem twz_90 : Cond.code yX2_init cX2_init 1 none ∈ lw_tbl := tk_1 (j := 227) rfl
set_option maxRecDepth 20000 in
theorem twz_91 : Cond.instanceMethod yX2_init ∈ lw_tbl := tk_1 (j := 226) rfl
set_option maxRecDepth 20000 in
theorem twz_92 : Cond.fieldLink RX7 9 "NotAtOnce$Rings" "table" "LNotAtOnce$Table;" ∈ lw_tbl := tk_1 (j := 219) rfl
set_option maxRecDepth 20000 in
theorem twz_93 : Cond.methodLink RX7 3 objectInit ∈ lw_tbl := tk_1 (j := 218) rfl
set_option maxRecDepth 20000 in
theorem twz_94 : Cond.code yX7_init cX7_init 2 none ∈ lw_tbl := tk_1 (j := 217) rfl
set_option maxRecDepth 20000 in
theorem twz_95 : Cond.instanceMethod yX7_init ∈ lw_tbl := tk_1 (j := 216) rfl
set_option maxRecDepth 20000 in
theorem twz_96 : Cond.methodLink RX10 31 yX7_init ∈ lw_tbl := tk_1 (j := 215) rfl
set_option maxRecDepth 20000 in
theorem twz_97 : Cond.fieldLink RX4 13 "NotAtOnce$History" "acts" "[[I" ∈ lw_tbl := tk_2 (j := 164) rfl
set_option maxRecDepth 20000 in
theorem twz_98 : Cond.classLink RX4 11 "[[I" ∈ lw_tbl := tk_2 (j := 156) rfl
set_option maxRecDepth 20000 in
theorem twz_99 : Cond.methodLink RX4 3 objectInit ∈ lw_tbl := tk_2 (j := 155) rfl
set_option maxRecDepth 20000 in
theorem twz_100 : Cond.code yX4_init cX4_init 2 none ∈ lw_tbl := tk_2 (j := 154) rfl
set_option maxRecDepth 20000 in
theorem twz_101 : Cond.instanceMethod yX4_init ∈ lw_tbl := tk_2 (j := 153) rfl
set_option maxRecDepth 20000 in
theorem twz_102 : Cond.methodLink RX10 77 yX4_init ∈ lw_tbl := tk_2 (j := 152) rfl
set_option maxRecDepth 20000 in
theorem twz_103 : Cond.fieldLink RX9 28 "NotAtOnce$Telling" "reasons" "[I" ∈ lw_tbl := tk_2 (j := 128) rfl
set_option maxRecDepth 20000 in
theorem twz_104 : Cond.fieldLink RX9 25 "NotAtOnce$Telling" "goesTo" "[I" ∈ lw_tbl := tk_2 (j := 127) rfl
set_option maxRecDepth 20000 in
theorem twz_105 : Cond.fieldLink RX9 22 "NotAtOnce$Telling" "answers" "[I" ∈ lw_tbl := tk_2 (j := 126) rfl
set_option maxRecDepth 20000 in
theorem twz_106 : Cond.fieldLink RX9 18 "NotAtOnce$Telling" "stepEnds" "[Z" ∈ lw_tbl := tk_2 (j := 125) rfl
set_option maxRecDepth 20000 in
theorem twz_107 : Cond.fieldLink RX9 15 "NotAtOnce$Telling" "stepTold" "[I" ∈ lw_tbl := tk_2 (j := 124) rfl
set_option maxRecDepth 20000 in
theorem twz_108 : Cond.fieldLink RX9 9 "NotAtOnce$Telling" "stepLook" "[I" ∈ lw_tbl := tk_2 (j := 123) rfl
set_option maxRecDepth 20000 in
theorem twz_109 : Cond.methodLink RX9 3 objectInit ∈ lw_tbl := tk_2 (j := 116) rfl
set_option maxRecDepth 20000 in
theorem twz_110 : Cond.code yX9_init cX9_init 1 none ∈ lw_tbl := tk_2 (j := 115) rfl
set_option maxRecDepth 20000 in
theorem twz_111 : Cond.instanceMethod yX9_init ∈ lw_tbl := tk_2 (j := 114) rfl
set_option maxRecDepth 20000 in
theorem twz_112 : Cond.fieldLink RX3 15 "NotAtOnce$Frames" "cornerBits" "[I" ∈ lw_tbl := tk_2 (j := 81) rfl
set_option maxRecDepth 20000 in
theorem twz_113 : Cond.fieldLink RX3 9 "NotAtOnce$Frames" "meets" "[I" ∈ lw_tbl := tk_2 (j := 79) rfl
set_option maxRecDepth 20000 in
theorem twz_114 : Cond.methodLink RX3 3 objectInit ∈ lw_tbl := tk_2 (j := 66) rfl
set_option maxRecDepth 20000 in
theorem twz_115 : Cond.code yX3_init cX3_init 1 none ∈ lw_tbl := tk_2 (j := 65) rfl
set_option maxRecDepth 20000 in
theorem twz_116 : Cond.instanceMethod yX3_init ∈ lw_tbl := tk_2 (j := 64) rfl
set_option maxRecDepth 20000 in
theorem twz_117 : Cond.fieldLink RX5 15 "NotAtOnce$Parities" "held" "[Z" ∈ lw_tbl := tk_2 (j := 46) rfl
set_option maxRecDepth 20000 in
theorem twz_118 : Cond.arrayClass .boolean ∈ lw_tbl := tk_2 (j := 60) rfl
set_option maxRecDepth 20000 in
theorem twz_119 : Cond.fieldLink RX5 9 "NotAtOnce$Parities" "ways" "I" ∈ lw_tbl := tk_2 (j := 42) rfl
set_option maxRecDepth 20000 in
theorem twz_120 : Cond.methodLink RX5 3 objectInit ∈ lw_tbl := tk_2 (j := 37) rfl
set_option maxRecDepth 20000 in
theorem twz_121 : Cond.fieldLink RX4 24 "NotAtOnce$History" "table" "LNotAtOnce$Table;" ∈ lw_tbl := tk_2 (j := 168) rfl
set_option maxRecDepth 20000 in
theorem twz_122 : Cond.fieldLink RX4 21 "NotAtOnce$History" "marked" "[[I" ∈ lw_tbl := tk_2 (j := 167) rfl
set_option maxRecDepth 20000 in
theorem twz_123 : Cond.fieldLink RX4 18 "NotAtOnce$History" "rows" "[[I" ∈ lw_tbl := tk_2 (j := 166) rfl
set_option maxRecDepth 20000 in
theorem twz_124 : Cond.code yX11_init cX11_init 1 none ∈ lw_tbl := tk_6 (j := 89) rfl
set_option maxRecDepth 20000 in
theorem twz_125 : Cond.fieldLink RX11 66 "NotAtOnceModel" "goes" "[I" ∈ lw_tbl := tk_6 (j := 130) rfl
set_option maxRecDepth 20000 in
theorem twz_126 : Cond.fieldLink RX11 63 "NotAtOnceModel" "tells" "[I" ∈ lw_tbl := tk_6 (j := 129) rfl
set_option maxRecDepth 20000 in
theorem twz_127 : Cond.fieldLink RX11 60 "NotAtOnceModel" "chosen" "[I" ∈ lw_tbl := tk_6 (j := 126) rfl
set_option maxRecDepth 20000 in
theorem twz_128 : Cond.fieldLink RX11 57 "NotAtOnceModel" "squares" "[I" ∈ lw_tbl := tk_6 (j := 124) rfl
set_option maxRecDepth 20000 in
theorem twz_129 : Cond.fieldLink RX11 54 "NotAtOnceModel" "corner" "[I" ∈ lw_tbl := tk_6 (j := 123) rfl
set_option maxRecDepth 20000 in
theorem twz_130 : Cond.fieldLink RX11 51 "NotAtOnceModel" "basis" "[I" ∈ lw_tbl := tk_6 (j := 119) rfl
set_option maxRecDepth 20000 in
theorem twz_131 : Cond.fieldLink RX11 47 "NotAtOnceModel" "tab" "[J" ∈ lw_tbl := tk_6 (j := 118) rfl
set_option maxRecDepth 20000 in
theorem twz_132 : Cond.arrayClass .long ∈ lw_tbl := tk_1 (j := 166) rfl
set_option maxRecDepth 20000 in
theorem twz_133 : Cond.fieldLink RX11 44 "NotAtOnceModel" "redoneActs" "[I" ∈ lw_tbl := tk_6 (j := 114) rfl
set_option maxRecDepth 20000 in
theorem twz_134 : Cond.fieldLink RX11 41 "NotAtOnceModel" "undoneActs" "[I" ∈ lw_tbl := tk_6 (j := 113) rfl
set_option maxRecDepth 20000 in
theorem twz_135 : Cond.fieldLink RX11 38 "NotAtOnceModel" "marked" "[I" ∈ lw_tbl := tk_6 (j := 112) rfl
set_option maxRecDepth 20000 in
theorem twz_136 : Cond.fieldLink RX11 35 "NotAtOnceModel" "redone" "[I" ∈ lw_tbl := tk_6 (j := 111) rfl
set_option maxRecDepth 20000 in
theorem twz_137 : Cond.fieldLink RX11 32 "NotAtOnceModel" "undone" "[I" ∈ lw_tbl := tk_6 (j := 110) rfl
set_option maxRecDepth 20000 in
theorem twz_138 : Cond.fieldLink RX11 29 "NotAtOnceModel" "was" "[I" ∈ lw_tbl := tk_6 (j := 109) rfl
set_option maxRecDepth 20000 in
theorem twz_139 : Cond.fieldLink RX11 26 "NotAtOnceModel" "coins" "[I" ∈ lw_tbl := tk_6 (j := 108) rfl
set_option maxRecDepth 20000 in
theorem twz_140 : Cond.fieldLink RX11 23 "NotAtOnceModel" "fresh" "[I" ∈ lw_tbl := tk_6 (j := 107) rfl
set_option maxRecDepth 20000 in
theorem twz_141 : Cond.fieldLink RX11 20 "NotAtOnceModel" "\x72" "[I" ∈ lw_tbl := tk_6 (j := 106) rfl
set_option maxRecDepth 20000 in
theorem twz_142 : Cond.fieldLink RX11 17 "NotAtOnceModel" "letters" "[I" ∈ lw_tbl := tk_6 (j := 103) rfl
set_option maxRecDepth 20000 in
theorem twz_143 : Cond.fieldLink RX11 13 "NotAtOnceModel" "place" "I" ∈ lw_tbl := tk_6 (j := 101) rfl
set_option maxRecDepth 20000 in
theorem twz_144 : Cond.fieldLink RX11 7 "NotAtOnceModel" "tape" "[I" ∈ lw_tbl := tk_6 (j := 92) rfl
set_option maxRecDepth 20000 in
theorem twz_145 : Cond.arrayClass .int ∈ lw_tbl := tk_1 (j := 125) rfl
set_option maxRecDepth 20000 in
theorem twz_146 : Cond.code objectInit ⟨#[0xb1]⟩ 1 none ∈ lw_tbl := by decide +kernel
set_option maxRecDepth 20000 in
theorem twz_147 : Cond.instanceMethod objectInit ∈ lw_tbl := tk_1 (j := 30) rfl
set_option maxRecDepth 20000 in
theorem twz_148 : Cond.methodLink RX11 1 objectInit ∈ lw_tbl := tk_6 (j := 90) rfl
set_option maxRecDepth 20000 in
theorem wi_X10_init_r1 : ∀ w ∈ wsX10_init_r1, w ∈ lw_tbl := List.forall_mem_cons.mpr ⟨twz_24, List.forall_mem_cons.mpr ⟨twz_23, List.forall_mem_cons.mpr ⟨twz_22, List.forall_mem_cons.mpr ⟨twz_21, List.forall_mem_cons.mpr ⟨twz_20, List.forall_mem_cons.mpr ⟨twz_19, List.forall_mem_cons.mpr ⟨twz_18, List.forall_mem_cons.mpr ⟨twz_17, List.forall_mem_cons.mpr ⟨twz_16, List.forall_mem_cons.mpr ⟨twz_15, List.forall_mem_cons.mpr ⟨twz_14, List.forall_mem_cons.mpr ⟨twz_13, List.forall_mem_cons.mpr ⟨twz_12, List.forall_mem_cons.mpr ⟨twz_11, List.forall_mem_cons.mpr ⟨twz_10, List.forall_mem_cons.mpr ⟨twz_9, List.forall_mem_cons.mpr ⟨twz_8, List.forall_mem_cons.mpr ⟨twz_7, List.forall_mem_cons.mpr ⟨twz_6, List.forall_mem_cons.mpr ⟨twz_5, List.forall_mem_cons.mpr ⟨twz_4, List.forall_mem_cons.mpr ⟨twz_3, List.forall_mem_cons.mpr ⟨twz_2, List.forall_mem_cons.mpr ⟨twz_1, fun _ h => absurd h List.not_mem_nil⟩⟩⟩⟩⟩⟩⟩⟩⟩⟩⟩⟩⟩⟩⟩⟩⟩⟩⟩⟩⟩⟩⟩⟩
set_option maxRecDepth 20000 in
theorem wi_X10_init_r2 : ∀ w ∈ wsX10_init_r2, w ∈ lw_tbl := List.forall_mem_cons.mpr ⟨twz_48, List.forall_mem_cons.mpr ⟨twz_47, List.forall_mem_cons.mpr ⟨twz_46, List.forall_mem_cons.mpr ⟨twz_45, List.forall_mem_cons.mpr ⟨twz_44, List.forall_mem_cons.mpr ⟨twz_43, List.forall_mem_cons.mpr ⟨twz_42, List.forall_mem_cons.mpr ⟨twz_41, List.forall_mem_cons.mpr ⟨twz_40, List.forall_mem_cons.mpr ⟨twz_39, List.forall_mem_cons.mpr ⟨twz_38, List.forall_mem_cons.mpr ⟨twz_37, List.forall_mem_cons.mpr ⟨twz_36, List.forall_mem_cons.mpr ⟨twz_35, List.forall_mem_cons.mpr ⟨twz_34, List.forall_mem_cons.mpr ⟨twz_33, List.forall_mem_cons.mpr ⟨twz_32, List.forall_mem_cons.mpr ⟨twz_31, List.forall_mem_cons.mpr ⟨twz_30, List.forall_mem_cons.mpr ⟨twz_29, List.forall_mem_cons.mpr ⟨twz_28, List.forall_mem_cons.mpr ⟨twz_27, List.forall_mem_cons.mpr ⟨twz_26, List.forall_mem_cons.mpr ⟨twz_25, fun _ h => absurd h List.not_mem_nil⟩⟩⟩⟩⟩⟩⟩⟩⟩⟩⟩⟩⟩⟩⟩⟩⟩⟩⟩⟩⟩⟩⟩⟩
set_option maxRecDepth 20000 in
theorem wi_X10_init_r3 : ∀ w ∈ wsX10_init_r3, w ∈ lw_tbl := List.forall_mem_cons.mpr ⟨twz_72, List.forall_mem_cons.mpr ⟨twz_71, List.forall_mem_cons.mpr ⟨twz_70, List.forall_mem_cons.mpr ⟨twz_69, List.forall_mem_cons.mpr ⟨twz_68, List.forall_mem_cons.mpr ⟨twz_67, List.forall_mem_cons.mpr ⟨twz_66, List.forall_mem_cons.mpr ⟨twz_65, List.forall_mem_cons.mpr ⟨twz_64, List.forall_mem_cons.mpr ⟨twz_63, List.forall_mem_cons.mpr ⟨twz_62, List.forall_mem_cons.mpr ⟨twz_61, List.forall_mem_cons.mpr ⟨twz_60, List.forall_mem_cons.mpr ⟨twz_59, List.forall_mem_cons.mpr ⟨twz_58, List.forall_mem_cons.mpr ⟨twz_57, List.forall_mem_cons.mpr ⟨twz_56, List.forall_mem_cons.mpr ⟨twz_55, List.forall_mem_cons.mpr ⟨twz_54, List.forall_mem_cons.mpr ⟨twz_53, List.forall_mem_cons.mpr ⟨twz_52, List.forall_mem_cons.mpr ⟨twz_51, List.forall_mem_cons.mpr ⟨twz_50, List.forall_mem_cons.mpr ⟨twz_49, fun _ h => absurd h List.not_mem_nil⟩⟩⟩⟩⟩⟩⟩⟩⟩⟩⟩⟩⟩⟩⟩⟩⟩⟩⟩⟩⟩⟩⟩⟩
set_option maxRecDepth 20000 in
theorem wi_X10_init_r4 : ∀ w ∈ wsX10_init_r4, w ∈ lw_tbl := List.forall_mem_cons.mpr ⟨twz_96, List.forall_mem_cons.mpr ⟨twz_95, List.forall_mem_cons.mpr ⟨twz_94, List.forall_mem_cons.mpr ⟨twz_93, List.forall_mem_cons.mpr ⟨twz_92, List.forall_mem_cons.mpr ⟨twz_91, List.forall_mem_cons.mpr ⟨twz_90, List.forall_mem_cons.mpr ⟨twz_89, List.forall_mem_cons.mpr ⟨twz_88, List.forall_mem_cons.mpr ⟨twz_87, List.forall_mem_cons.mpr ⟨twz_86, List.forall_mem_cons.mpr ⟨twz_85, List.forall_mem_cons.mpr ⟨twz_84, List.forall_mem_cons.mpr ⟨twz_83, List.forall_mem_cons.mpr ⟨twz_82, List.forall_mem_cons.mpr ⟨twz_81, List.forall_mem_cons.mpr ⟨twz_80, List.forall_mem_cons.mpr ⟨twz_79, List.forall_mem_cons.mpr ⟨twz_78, List.forall_mem_cons.mpr ⟨twz_77, List.forall_mem_cons.mpr ⟨twz_76, List.forall_mem_cons.mpr ⟨twz_75, List.forall_mem_cons.mpr ⟨twz_74, List.forall_mem_cons.mpr ⟨twz_73, fun _ h => absurd h List.not_mem_nil⟩⟩⟩⟩⟩⟩⟩⟩⟩⟩⟩⟩⟩⟩⟩⟩⟩⟩⟩⟩⟩⟩⟩⟩
set_option maxRecDepth 20000 in
theorem wi_X10_init_r5 : ∀ w ∈ wsX10_init_r5, w ∈ lw_tbl := List.forall_mem_cons.mpr ⟨twz_120, List.forall_mem_cons.mpr ⟨twz_119, List.forall_mem_cons.mpr ⟨twz_118, List.forall_mem_cons.mpr ⟨twz_117, List.forall_mem_cons.mpr ⟨twz_116, List.forall_mem_cons.mpr ⟨twz_115, List.forall_mem_cons.mpr ⟨twz_114, List.forall_mem_cons.mpr ⟨twz_113, List.forall_mem_cons.mpr ⟨twz_112, List.forall_mem_cons.mpr ⟨twz_111, List.forall_mem_cons.mpr ⟨twz_110, List.forall_mem_cons.mpr ⟨twz_109, List.forall_mem_cons.mpr ⟨twz_108, List.forall_mem_cons.mpr ⟨twz_107, List.forall_mem_cons.mpr ⟨twz_106, List.forall_mem_cons.mpr ⟨twz_105, List.forall_mem_cons.mpr ⟨twz_104, List.forall_mem_cons.mpr ⟨twz_103, List.forall_mem_cons.mpr ⟨twz_102, List.forall_mem_cons.mpr ⟨twz_101, List.forall_mem_cons.mpr ⟨twz_100, List.forall_mem_cons.mpr ⟨twz_99, List.forall_mem_cons.mpr ⟨twz_98, List.forall_mem_cons.mpr ⟨twz_97, fun _ h => absurd h List.not_mem_nil⟩⟩⟩⟩⟩⟩⟩⟩⟩⟩⟩⟩⟩⟩⟩⟩⟩⟩⟩⟩⟩⟩⟩⟩
set_option maxRecDepth 20000 in
theorem wi_X10_init_r6 : ∀ w ∈ wsX10_init_r6, w ∈ lw_tbl := List.forall_mem_cons.mpr ⟨twz_123, List.forall_mem_cons.mpr ⟨twz_122, List.forall_mem_cons.mpr ⟨twz_121, fun _ h => absurd h List.not_mem_nil⟩⟩⟩
set_option maxRecDepth 20000 in
theorem wi_X10_init : ∀ w ∈ wsX10_init, w ∈ lw_tbl := List.forall_mem_cons.mpr ⟨twz_0, List.forall_mem_append.mpr ⟨List.forall_mem_append.mpr ⟨List.forall_mem_append.mpr ⟨List.forall_mem_append.mpr ⟨List.forall_mem_append.mpr ⟨List.forall_mem_append.mpr ⟨List.forall_mem_append.mpr ⟨List.forall_mem_append.mpr ⟨List.forall_mem_append.mpr ⟨List.forall_mem_append.mpr ⟨List.forall_mem_append.mpr ⟨List.forall_mem_append.mpr ⟨wi_X10_init_r1, List.forall_mem_append.mpr ⟨wi_X10_init_r2, List.forall_mem_append.mpr ⟨wi_X10_init_r3, List.forall_mem_append.mpr ⟨wi_X10_init_r4, List.forall_mem_append.mpr ⟨wi_X10_init_r5, wi_X10_init_r6⟩⟩⟩⟩⟩, tinX10⟩, tinX6⟩, tinX8⟩, tinX7⟩, tinX2⟩, tinX0⟩, tinX5⟩, tinX3⟩, tinX9⟩, tinX4⟩, tinX1⟩⟩
set_option maxRecDepth 20000 in
theorem wi_X11_init : ∀ w ∈ wsX11_init, w ∈ lw_tbl := List.forall_mem_cons.mpr ⟨twz_124, List.forall_mem_append.mpr ⟨List.forall_mem_cons.mpr ⟨twz_148, List.forall_mem_cons.mpr ⟨twz_147, List.forall_mem_cons.mpr ⟨twz_146, List.forall_mem_cons.mpr ⟨twz_145, List.forall_mem_cons.mpr ⟨twz_144, List.forall_mem_cons.mpr ⟨twz_143, List.forall_mem_cons.mpr ⟨twz_142, List.forall_mem_cons.mpr ⟨twz_141, List.forall_mem_cons.mpr ⟨twz_140, List.forall_mem_cons.mpr ⟨twz_139, List.forall_mem_cons.mpr ⟨twz_138, List.forall_mem_cons.mpr ⟨twz_137, List.forall_mem_cons.mpr ⟨twz_136, List.forall_mem_cons.mpr ⟨twz_135, List.forall_mem_cons.mpr ⟨twz_134, List.forall_mem_cons.mpr ⟨twz_133, List.forall_mem_cons.mpr ⟨twz_132, List.forall_mem_cons.mpr ⟨twz_131, List.forall_mem_cons.mpr ⟨twz_130, List.forall_mem_cons.mpr ⟨twz_129, List.forall_mem_cons.mpr ⟨twz_128, List.forall_mem_cons.mpr ⟨twz_127, List.forall_mem_cons.mpr ⟨twz_126, List.forall_mem_cons.mpr ⟨twz_125, fun _ h => absurd h List.not_mem_nil⟩⟩⟩⟩⟩⟩⟩⟩⟩⟩⟩⟩⟩⟩⟩⟩⟩⟩⟩⟩⟩⟩⟩⟩, tinX11⟩⟩
set_option maxRecDepth 100000 in
theorem gL_law_X10_init : GoodIn lw_tbl (wsX10_init) := goodIn_sub wi_X10_init (by decide +kernel)
set_option maxRecDepth 100000 in
theorem gL_law_X11_init : GoodIn lw_tbl (wsX11_init) := goodIn_sub wi_X11_init (by decide +kernel)
theorem dL_law_0 : decode cL_law 0 = .ok (.new 8, 3) := by decide +kernel
theorem dL_law_3 : decode cL_law 3 = .ok (.dup, 1) := by decide +kernel
theorem dL_law_4 : decode cL_law 4 = .ok (.invokespecial 15, 3) := by decide +kernel
theorem dL_law_7 : decode cL_law 7 = .ok (.astore_n 1, 1) := by decide +kernel
theorem dL_law_8 : decode cL_law 8 = .ok (.new 16, 3) := by decide +kernel
theorem dL_law_11 : decode cL_law 11 = .ok (.dup, 1) := by decide +kernel
theorem dL_law_12 : decode cL_law 12 = .ok (.invokespecial 18, 3) := by decide +kernel
theorem dL_law_15 : decode cL_law 15 = .ok (.astore_n 2, 1) := by decide +kernel
theorem dL_law_16 : decode cL_law 16 = .ok (.iconst 1, 1) := by decide +kernel
theorem dL_law_17 : decode cL_law 17 = .ok (.newarray .long, 2) := by decide +kernel
theorem dL_law_19 : decode cL_law 19 = .ok (.astore_n 3, 1) := by decide +kernel
theorem dL_law_20 : decode cL_law 20 = .ok (.iconst 0, 1) := by decide +kernel
theorem dL_law_21 : decode cL_law 21 = .ok (.istore 4, 2) := by decide +kernel
