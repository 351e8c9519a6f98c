set_option maxRecDepth 20000 in
theorem tl_0 : Cond.code yX10_feed cX10_feed 6 (some .int) ∈ lw_tbl := tk_2 (j := 230) rfl
set_option maxRecDepth 20000 in
theorem tl_1 : Cond.methodLink RL 19 yX10_feed ∈ lw_tbl := tk_2 (j := 227) rfl
set_option maxRecDepth 20000 in
theorem tl_2 : Cond.initialized RX10 ∈ lw_tbl := tk_1 (j := 1) rfl
set_option maxRecDepth 20000 in
theorem tl_3 : Cond.instanceMethod yX10_feed ∈ lw_tbl := tk_2 (j := 228) rfl
set_option maxRecDepth 20000 in
theorem tl_4 : Cond.selects RX10 yX10_feed yX10_feed ∈ lw_tbl := tk_2 (j := 229) rfl
set_option maxRecDepth 20000 in
theorem tl_5 : Cond.code yX11_feed cX11_feed 8 (some .int) ∈ lw_tbl := tk_6 (j := 215) rfl
set_option maxRecDepth 20000 in
theorem tl_6 : Cond.methodLink RL 23 yX11_feed ∈ lw_tbl := tk_6 (j := 212) rfl
set_option maxRecDepth 20000 in
theorem tl_7 : Cond.initialized RX11 ∈ lw_tbl := tk_1 (j := 12) rfl
set_option maxRecDepth 20000 in
theorem tl_8 : Cond.instanceMethod yX11_feed ∈ lw_tbl := tk_6 (j := 213) rfl
set_option maxRecDepth 20000 in
theorem tl_9 : Cond.selects RX11 yX11_feed yX11_feed ∈ lw_tbl := tk_6 (j := 214) rfl
set_option maxRecDepth 20000 in
theorem tl_10 : Cond.code yX10_book cX10_book 2 (some .int) ∈ lw_tbl := tk_2 (j := 238) rfl
set_option maxRecDepth 20000 in
theorem tl_11 : Cond.methodLink RL 24 yX10_book ∈ lw_tbl := tk_2 (j := 235) rfl
set_option maxRecDepth 20000 in
theorem tl_12 : Cond.instanceMethod yX10_book ∈ lw_tbl := tk_2 (j := 236) rfl
set_option maxRecDepth 20000 in
theorem tl_13 : Cond.selects RX10 yX10_book yX10_book ∈ lw_tbl := tk_2 (j := 237) rfl
set_option maxRecDepth 20000 in
theorem tl_14 : Cond.code yX11_book cX11_book 3 (some .int) ∈ lw_tbl := tk_6 (j := 219) rfl
set_option maxRecDepth 20000 in
theorem tl_15 : Cond.methodLink RL 27 yX11_book ∈ lw_tbl := tk_6 (j := 216) rfl
set_option maxRecDepth 20000 in
theorem tl_16 : Cond.instanceMethod yX11_book ∈ lw_tbl := tk_6 (j := 217) rfl
set_option maxRecDepth 20000 in
theorem tl_17 : Cond.selects RX11 yX11_book yX11_book ∈ lw_tbl := tk_6 (j := 218) rfl
set_option maxRecDepth 20000 in
theorem tl_18 : Cond.code yX10_fault cX10_fault 1 (some .int) ∈ lw_tbl := tk_3 (j := 220) rfl
set_option maxRecDepth 20000 in
theorem tl_19 : Cond.methodLink RL 28 yX10_fault ∈ lw_tbl := tk_3 (j := 217) rfl
set_option maxRecDepth 20000 in
theorem tl_20 : Cond.instanceMethod yX10_fault ∈ lw_tbl := tk_3 (j := 218) rfl
set_option maxRecDepth 20000 in
theorem tl_21 : Cond.selects RX10 yX10_fault yX10_fault ∈ lw_tbl := tk_3 (j := 219) rfl
set_option maxRecDepth 20000 in
theorem tl_22 : Cond.code yX11_fault cX11_fault 1 (some .int) ∈ lw_tbl := tk_7 (j := 105) rfl
set_option maxRecDepth 20000 in
theorem tl_23 : Cond.methodLink RL 32 yX11_fault ∈ lw_tbl := tk_7 (j := 102) rfl
set_option maxRecDepth 20000 in
theorem tl_24 : Cond.instanceMethod yX11_fault ∈ lw_tbl := tk_7 (j := 103) rfl
set_option maxRecDepth 20000 in
theorem tl_25 : Cond.selects RX11 yX11_fault yX11_fault ∈ lw_tbl := tk_7 (j := 104) rfl
set_option maxRecDepth 20000 in
theorem tl_26 : Cond.code yX10_where cX10_where 1 (some .int) ∈ lw_tbl := tk_3 (j := 224) rfl
set_option maxRecDepth 20000 in
theorem tl_27 : Cond.methodLink RL 33 yX10_where ∈ lw_tbl := tk_3 (j := 221) rfl
set_option maxRecDepth 20000 in
theorem tl_28 : Cond.instanceMethod yX10_where ∈ lw_tbl := tk_3 (j := 222) rfl
set_option maxRecDepth 20000 in
theorem tl_29 : Cond.selects RX10 yX10_where yX10_where ∈ lw_tbl := tk_3 (j := 223) rfl
set_option maxRecDepth 20000 in
theorem tl_30 : Cond.code yX11_where cX11_where 1 (some .int) ∈ lw_tbl := tk_7 (j := 109) rfl
set_option maxRecDepth 20000 in
theorem tl_31 : Cond.methodLink RL 36 yX11_where ∈ lw_tbl := tk_7 (j := 106) rfl
set_option maxRecDepth 20000 in
theorem tl_32 : Cond.instanceMethod yX11_where ∈ lw_tbl := tk_7 (j := 107) rfl
set_option maxRecDepth 20000 in
theorem tl_33 : Cond.selects RX11 yX11_where yX11_where ∈ lw_tbl := tk_7 (j := 108) rfl
set_option maxRecDepth 20000 in
theorem tl_34 : Cond.code yX10_share cX10_share 2 (some .int) ∈ lw_tbl := tk_3 (j := 228) rfl
set_option maxRecDepth 20000 in
theorem tl_35 : Cond.methodLink RL 37 yX10_share ∈ lw_tbl := tk_3 (j := 225) rfl
set_option maxRecDepth 20000 in
theorem tl_36 : Cond.instanceMethod yX10_share ∈ lw_tbl := tk_3 (j := 226) rfl
set_option maxRecDepth 20000 in
theorem tl_37 : Cond.selects RX10 yX10_share yX10_share ∈ lw_tbl := tk_3 (j := 227) rfl
set_option maxRecDepth 20000 in
theorem tl_38 : Cond.code yX11_share cX11_share 2 (some .int) ∈ lw_tbl := tk_7 (j := 113) rfl
set_option maxRecDepth 20000 in
theorem tl_39 : Cond.methodLink RL 41 yX11_share ∈ lw_tbl := tk_7 (j := 110) rfl
set_option maxRecDepth 20000 in
theorem tl_40 : Cond.instanceMethod yX11_share ∈ lw_tbl := tk_7 (j := 111) rfl
set_option maxRecDepth 20000 in
theorem tl_41 : Cond.selects RX11 yX11_share yX11_share ∈ lw_tbl := tk_7 (j := 112) rfl
set_option maxRecDepth 20000 in
theorem tl_42 : Cond.code yX10_together cX10_together 7 (some .int) ∈ lw_tbl := tk_4 (j := 62) rfl
set_option maxRecDepth 20000 in
theorem tl_43 : Cond.methodLink RL 42 yX10_together ∈ lw_tbl := tk_4 (j := 59) rfl
set_option maxRecDepth 20000 in
theorem tl_44 : Cond.instanceMethod yX10_together ∈ lw_tbl := tk_4 (j := 60) rfl
set_option maxRecDepth 20000 in
theorem tl_45 : Cond.selects RX10 yX10_together yX10_together ∈ lw_tbl := tk_4 (j := 61) rfl
set_option maxRecDepth 20000 in
theorem tl_46 : Cond.code yX11_together cX11_together 13 (some .int) ∈ lw_tbl := tk_7 (j := 158) rfl
set_option maxRecDepth 20000 in
theorem tl_47 : Cond.methodLink RL 46 yX11_together ∈ lw_tbl := tk_7 (j := 155) rfl
set_option maxRecDepth 20000 in
theorem tl_48 : Cond.instanceMethod yX11_together ∈ lw_tbl := tk_7 (j := 156) rfl
set_option maxRecDepth 20000 in
theorem tl_49 : Cond.selects RX11 yX11_together yX11_together ∈ lw_tbl := tk_7 (j := 157) rfl
set_option maxRecDepth 20000 in
theorem tl_50 : Cond.code yX10_extend cX10_extend 3 (some .int) ∈ lw_tbl := tk_4 (j := 88) rfl
set_option maxRecDepth 20000 in
theorem tl_51 : Cond.methodLink RL 47 yX10_extend ∈ lw_tbl := tk_4 (j := 85) rfl
set_option maxRecDepth 20000 in
theorem tl_52 : Cond.instanceMethod yX10_extend ∈ lw_tbl := tk_4 (j := 86) rfl
set_option maxRecDepth 20000 in
theorem tl_53 : Cond.selects RX10 yX10_extend yX10_extend ∈ lw_tbl := tk_4 (j := 87) rfl
set_option maxRecDepth 20000 in
theorem tl_54 : Cond.code yX11_extend cX11_extend 3 (some .int) ∈ lw_tbl := tk_7 (j := 169) rfl
set_option maxRecDepth 20000 in
theorem tl_55 : Cond.methodLink RL 51 yX11_extend ∈ lw_tbl := tk_7 (j := 166) rfl
set_option maxRecDepth 20000 in
theorem tl_56 : Cond.instanceMethod yX11_extend ∈ lw_tbl := tk_7 (j := 167) rfl
set_option maxRecDepth 20000 in
theorem tl_57 : Cond.selects RX11 yX11_extend yX11_extend ∈ lw_tbl := tk_7 (j := 168) rfl
set_option maxRecDepth 20000 in
theorem tl_58 : Cond.code yX10_level cX10_level 3 (some .int) ∈ lw_tbl := tk_4 (j := 110) rfl
set_option maxRecDepth 20000 in
theorem tl_59 : Cond.methodLink RL 52 yX10_level ∈ lw_tbl := tk_4 (j := 107) rfl
set_option maxRecDepth 20000 in
theorem tl_60 : Cond.instanceMethod yX10_level ∈ lw_tbl := tk_4 (j := 108) rfl
set_option maxRecDepth 20000 in
theorem tl_61 : Cond.selects RX10 yX10_level yX10_level ∈ lw_tbl := tk_4 (j := 109) rfl
set_option maxRecDepth 20000 in
theorem tl_62 : Cond.code yX11_level cX11_level 5 (some .int) ∈ lw_tbl := tk_7 (j := 189) rfl
set_option maxRecDepth 20000 in
theorem tl_63 : Cond.methodLink RL 55 yX11_level ∈ lw_tbl := tk_7 (j := 186) rfl
set_option maxRecDepth 20000 in
theorem tl_64 : Cond.instanceMethod yX11_level ∈ lw_tbl := tk_7 (j := 187) rfl
set_option maxRecDepth 20000 in
theorem tl_65 : Cond.selects RX11 yX11_level yX11_level ∈ lw_tbl := tk_7 (j := 188) rfl
set_option maxRecDepth 20000 in
theorem tl_66 : Cond.code yX10_hidden cX10_hidden 1 (some .int) ∈ lw_tbl := tk_4 (j := 118) rfl
set_option maxRecDepth 20000 in
theorem tl_67 : Cond.methodLink RL 56 yX10_hidden ∈ lw_tbl := tk_4 (j := 115) rfl
set_option maxRecDepth 20000 in
theorem tl_68 : Cond.instanceMethod yX10_hidden ∈ lw_tbl := tk_4 (j := 116) rfl
set_option maxRecDepth 20000 in
theorem tl_69 : Cond.selects RX10 yX10_hidden yX10_hidden ∈ lw_tbl := tk_4 (j := 117) rfl
set_option maxRecDepth 20000 in
theorem tl_70 : Cond.code yX11_hidden cX11_hidden 1 (some .int) ∈ lw_tbl := tk_7 (j := 193) rfl
set_option maxRecDepth 20000 in
theorem tl_71 : Cond.methodLink RL 59 yX11_hidden ∈ lw_tbl := tk_7 (j := 190) rfl
set_option maxRecDepth 20000 in
theorem tl_72 : Cond.instanceMethod yX11_hidden ∈ lw_tbl := tk_7 (j := 191) rfl
set_option maxRecDepth 20000 in
theorem tl_73 : Cond.selects RX11 yX11_hidden yX11_hidden ∈ lw_tbl := tk_7 (j := 192) rfl
set_option maxRecDepth 20000 in
theorem tl_74 : Cond.code yX10_answer cX10_answer 3 (some .int) ∈ lw_tbl := tk_4 (j := 126) rfl
set_option maxRecDepth 20000 in
theorem tl_75 : Cond.methodLink RL 60 yX10_answer ∈ lw_tbl := tk_4 (j := 123) rfl
set_option maxRecDepth 20000 in
theorem tl_76 : Cond.instanceMethod yX10_answer ∈ lw_tbl := tk_4 (j := 124) rfl
set_option maxRecDepth 20000 in
theorem tl_77 : Cond.selects RX10 yX10_answer yX10_answer ∈ lw_tbl := tk_4 (j := 125) rfl
set_option maxRecDepth 20000 in
theorem tl_78 : Cond.code yX11_answer cX11_answer 3 (some .int) ∈ lw_tbl := tk_7 (j := 201) rfl
set_option maxRecDepth 20000 in
theorem tl_79 : Cond.methodLink RL 63 yX11_answer ∈ lw_tbl := tk_7 (j := 198) rfl
set_option maxRecDepth 20000 in
theorem tl_80 : Cond.instanceMethod yX11_answer ∈ lw_tbl := tk_7 (j := 199) rfl
set_option maxRecDepth 20000 in
theorem tl_81 : Cond.selects RX11 yX11_answer yX11_answer ∈ lw_tbl := tk_7 (j := 200) rfl
set_option maxRecDepth 20000 in
theorem tl_82 : Cond.code yX10_disturbed cX10_disturbed 1 (some .int) ∈ lw_tbl := tk_4 (j := 134) rfl
set_option maxRecDepth 20000 in
theorem tl_83 : Cond.methodLink RL 64 yX10_disturbed ∈ lw_tbl := tk_4 (j := 131) rfl
set_option maxRecDepth 20000 in
theorem tl_84 : Cond.instanceMethod yX10_disturbed ∈ lw_tbl := tk_4 (j := 132) rfl
set_option maxRecDepth 20000 in
theorem tl_85 : Cond.selects RX10 yX10_disturbed yX10_disturbed ∈ lw_tbl := tk_4 (j := 133) rfl
set_option maxRecDepth 20000 in
theorem tl_86 : Cond.code yX11_disturbed cX11_disturbed 5 (some .int) ∈ lw_tbl := tk_7 (j := 205) rfl
set_option maxRecDepth 20000 in
theorem tl_87 : Cond.methodLink RL 67 yX11_disturbed ∈ lw_tbl := tk_7 (j := 202) rfl
set_option maxRecDepth 20000 in
theorem tl_88 : Cond.instanceMethod yX11_disturbed ∈ lw_tbl := tk_7 (j := 203) rfl
set_option maxRecDepth 20000 in
theorem tl_89 : Cond.selects RX11 yX11_disturbed yX11_disturbed ∈ lw_tbl := tk_7 (j := 204) rfl
set_option maxRecDepth 20000 in
theorem tl_90 : Cond.code yX10_same cX10_same 2 (some .int) ∈ lw_tbl := tk_4 (j := 146) rfl
set_option maxRecDepth 20000 in
theorem tl_91 : Cond.methodLink RL 68 yX10_same ∈ lw_tbl := tk_4 (j := 143) rfl
set_option maxRecDepth 20000 in
theorem tl_92 : Cond.instanceMethod yX10_same ∈ lw_tbl := tk_4 (j := 144) rfl
set_option maxRecDepth 20000 in
theorem tl_93 : Cond.selects RX10 yX10_same yX10_same ∈ lw_tbl := tk_4 (j := 145) rfl
set_option maxRecDepth 20000 in
theorem tl_94 : Cond.code yX11_same cX11_same 2 (some .int) ∈ lw_tbl := tk_7 (j := 213) rfl
set_option maxRecDepth 20000 in
theorem tl_95 : Cond.methodLink RL 71 yX11_same ∈ lw_tbl := tk_7 (j := 210) rfl
set_option maxRecDepth 20000 in
theorem tl_96 : Cond.instanceMethod yX11_same ∈ lw_tbl := tk_7 (j := 211) rfl
set_option maxRecDepth 20000 in
theorem tl_97 : Cond.selects RX11 yX11_same yX11_same ∈ lw_tbl := tk_7 (j := 212) rfl
set_option maxRecDepth 20000 in
theorem tl_98 : Cond.code yX10_cycles cX10_cycles 1 (some .int) ∈ lw_tbl := tk_4 (j := 158) rfl
set_option maxRecDepth 20000 in
theorem tl_99 : Cond.methodLink RL 72 yX10_cycles ∈ lw_tbl := tk_4 (j := 155) rfl
set_option maxRecDepth 20000 in
theorem tl_100 : Cond.instanceMethod yX10_cycles ∈ lw_tbl := tk_4 (j := 156) rfl
set_option maxRecDepth 20000 in
theorem tl_101 : Cond.selects RX10 yX10_cycles yX10_cycles ∈ lw_tbl := tk_4 (j := 157) rfl
set_option maxRecDepth 20000 in
theorem tl_102 : Cond.code yX11_cycles cX11_cycles 1 (some .int) ∈ lw_tbl := tk_7 (j := 225) rfl
set_option maxRecDepth 20000 in
theorem tl_103 : Cond.methodLink RL 75 yX11_cycles ∈ lw_tbl := tk_7 (j := 222) rfl
set_option maxRecDepth 20000 in
theorem tl_104 : Cond.instanceMethod yX11_cycles ∈ lw_tbl := tk_7 (j := 223) rfl
set_option maxRecDepth 20000 in
theorem tl_105 : Cond.selects RX11 yX11_cycles yX11_cycles ∈ lw_tbl := tk_7 (j := 224) rfl
set_option maxRecDepth 20000 in
theorem tl_106 : Cond.code yX10_cycle cX10_cycle 3 (some .int) ∈ lw_tbl := tk_4 (j := 180) rfl
set_option maxRecDepth 20000 in
theorem tl_107 : Cond.methodLink RL 76 yX10_cycle ∈ lw_tbl := tk_4 (j := 177) rfl
set_option maxRecDepth 20000 in
theorem tl_108 : Cond.instanceMethod yX10_cycle ∈ lw_tbl := tk_4 (j := 178) rfl
set_option maxRecDepth 20000 in
theorem tl_109 : Cond.selects RX10 yX10_cycle yX10_cycle ∈ lw_tbl := tk_4 (j := 179) rfl
set_option maxRecDepth 20000 in
theorem tl_110 : Cond.code yX11_cycle cX11_cycle 3 (some .int) ∈ lw_tbl := tk_8 (j := 0) rfl
set_option maxRecDepth 20000 in
theorem tl_111 : Cond.methodLink RL 79 yX11_cycle ∈ lw_tbl := tk_7 (j := 237) rfl
set_option maxRecDepth 20000 in
theorem tl_112 : Cond.instanceMethod yX11_cycle ∈ lw_tbl := tk_7 (j := 238) rfl
set_option maxRecDepth 20000 in
theorem tl_113 : Cond.selects RX11 yX11_cycle yX11_cycle ∈ lw_tbl := tk_7 (j := 239) rfl
set_option maxRecDepth 20000 in
theorem tl_114 : Cond.code yX10_excess cX10_excess 2 (some .int) ∈ lw_tbl := tk_4 (j := 188) rfl
set_option maxRecDepth 20000 in
theorem tl_115 : Cond.methodLink RL 80 yX10_excess ∈ lw_tbl := tk_4 (j := 185) rfl
set_option maxRecDepth 20000 in
theorem tl_116 : Cond.instanceMethod yX10_excess ∈ lw_tbl := tk_4 (j := 186) rfl
set_option maxRecDepth 20000 in
theorem tl_117 : Cond.selects RX10 yX10_excess yX10_excess ∈ lw_tbl := tk_4 (j := 187) rfl
set_option maxRecDepth 20000 in
theorem tl_118 : Cond.code yX11_excess cX11_excess 2 (some .int) ∈ lw_tbl := tk_8 (j := 4) rfl
set_option maxRecDepth 20000 in
theorem tl_119 : Cond.methodLink RL 83 yX11_excess ∈ lw_tbl := tk_8 (j := 1) rfl
set_option maxRecDepth 20000 in
theorem tl_120 : Cond.instanceMethod yX11_excess ∈ lw_tbl := tk_8 (j := 2) rfl
set_option maxRecDepth 20000 in
theorem tl_121 : Cond.selects RX11 yX11_excess yX11_excess ∈ lw_tbl := tk_8 (j := 3) rfl
set_option maxRecDepth 20000 in
theorem tl_122 : Cond.code yX10_widest cX10_widest 1 (some .int) ∈ lw_tbl := tk_4 (j := 202) rfl
set_option maxRecDepth 20000 in
theorem tl_123 : Cond.methodLink RL 84 yX10_widest ∈ lw_tbl := tk_4 (j := 199) rfl
set_option maxRecDepth 20000 in
theorem tl_124 : Cond.instanceMethod yX10_widest ∈ lw_tbl := tk_4 (j := 200) rfl
set_option maxRecDepth 20000 in
theorem tl_125 : Cond.selects RX10 yX10_widest yX10_widest ∈ lw_tbl := tk_4 (j := 201) rfl
set_option maxRecDepth 20000 in
theorem tl_126 : Cond.code yX11_widest cX11_widest 5 (some .int) ∈ lw_tbl := tk_8 (j := 13) rfl
set_option maxRecDepth 20000 in
theorem tl_127 : Cond.methodLink RL 87 yX11_widest ∈ lw_tbl := tk_8 (j := 10) rfl
set_option maxRecDepth 20000 in
theorem tl_128 : Cond.instanceMethod yX11_widest ∈ lw_tbl := tk_8 (j := 11) rfl
set_option maxRecDepth 20000 in
theorem tl_129 : Cond.selects RX11 yX11_widest yX11_widest ∈ lw_tbl := tk_8 (j := 12) rfl
set_option maxRecDepth 20000 in
theorem tl_130 : Cond.code yX10_stake cX10_stake 4 (some .boolean) ∈ lw_tbl := tk_4 (j := 211) rfl
set_option maxRecDepth 20000 in
theorem tl_131 : Cond.methodLink RL 88 yX10_stake ∈ lw_tbl := tk_4 (j := 208) rfl
set_option maxRecDepth 20000 in
theorem tl_132 : Cond.instanceMethod yX10_stake ∈ lw_tbl := tk_4 (j := 209) rfl
set_option maxRecDepth 20000 in
theorem tl_133 : Cond.selects RX10 yX10_stake yX10_stake ∈ lw_tbl := tk_4 (j := 210) rfl
set_option maxRecDepth 20000 in
theorem tl_134 : Cond.code yX11_stake cX11_stake 4 (some .boolean) ∈ lw_tbl := tk_8 (j := 17) rfl
set_option maxRecDepth 20000 in
theorem tl_135 : Cond.methodLink RL 92 yX11_stake ∈ lw_tbl := tk_8 (j := 14) rfl
set_option maxRecDepth 20000 in
theorem tl_136 : Cond.instanceMethod yX11_stake ∈ lw_tbl := tk_8 (j := 15) rfl
set_option maxRecDepth 20000 in
theorem tl_137 : Cond.selects RX11 yX11_stake yX11_stake ∈ lw_tbl := tk_8 (j := 16) rfl
set_option maxRecDepth 20000 in
theorem tl_138 : Cond.code yX10_wins cX10_wins 1 (some .int) ∈ lw_tbl := tk_4 (j := 223) rfl
set_option maxRecDepth 20000 in
theorem tl_139 : Cond.methodLink RL 93 yX10_wins ∈ lw_tbl := tk_4 (j := 220) rfl
set_option maxRecDepth 20000 in
theorem tl_140 : Cond.instanceMethod yX10_wins ∈ lw_tbl := tk_4 (j := 221) rfl
set_option maxRecDepth 20000 in
theorem tl_141 : Cond.selects RX10 yX10_wins yX10_wins ∈ lw_tbl := tk_4 (j := 222) rfl
set_option maxRecDepth 20000 in
theorem tl_142 : Cond.code yX11_wins cX11_wins 1 (some .int) ∈ lw_tbl := tk_8 (j := 25) rfl
set_option maxRecDepth 20000 in
theorem tl_143 : Cond.methodLink RL 96 yX11_wins ∈ lw_tbl := tk_8 (j := 22) rfl
set_option maxRecDepth 20000 in
theorem tl_144 : Cond.instanceMethod yX11_wins ∈ lw_tbl := tk_8 (j := 23) rfl
set_option maxRecDepth 20000 in
theorem tl_145 : Cond.selects RX11 yX11_wins yX11_wins ∈ lw_tbl := tk_8 (j := 24) rfl
set_option maxRecDepth 20000 in
theorem tl_146 : Cond.code yX10_worst cX10_worst 1 (some .int) ∈ lw_tbl := tk_4 (j := 231) rfl
set_option maxRecDepth 20000 in
theorem tl_147 : Cond.methodLink RL 97 yX10_worst ∈ lw_tbl := tk_4 (j := 228) rfl
set_option maxRecDepth 20000 in
theorem tl_148 : Cond.instanceMethod yX10_worst ∈ lw_tbl := tk_4 (j := 229) rfl
set_option maxRecDepth 20000 in
theorem tl_149 : Cond.selects RX10 yX10_worst yX10_worst ∈ lw_tbl := tk_4 (j := 230) rfl
set_option maxRecDepth 20000 in
theorem tl_150 : Cond.code yX11_worst cX11_worst 1 (some .int) ∈ lw_tbl := tk_8 (j := 33) rfl
set_option maxRecDepth 20000 in
theorem tl_151 : Cond.methodLink RL 100 yX11_worst ∈ lw_tbl := tk_8 (j := 30) rfl
set_option maxRecDepth 20000 in
theorem tl_152 : Cond.instanceMethod yX11_worst ∈ lw_tbl := tk_8 (j := 31) rfl
set_option maxRecDepth 20000 in
theorem tl_153 : Cond.selects RX11 yX11_worst yX11_worst ∈ lw_tbl := tk_8 (j := 32) rfl
set_option maxRecDepth 20000 in
theorem tl_154 : Cond.code yX10_worstAt cX10_worstAt 1 (some .int) ∈ lw_tbl := tk_5 (j := 4) rfl
set_option maxRecDepth 20000 in
theorem tl_155 : Cond.methodLink RL 101 yX10_worstAt ∈ lw_tbl := tk_5 (j := 1) rfl
set_option maxRecDepth 20000 in
theorem tl_156 : Cond.instanceMethod yX10_worstAt ∈ lw_tbl := tk_5 (j := 2) rfl
set_option maxRecDepth 20000 in
theorem tl_157 : Cond.selects RX10 yX10_worstAt yX10_worstAt ∈ lw_tbl := tk_5 (j := 3) rfl
set_option maxRecDepth 20000 in
theorem tl_158 : Cond.code yX11_worstAt cX11_worstAt 1 (some .int) ∈ lw_tbl := tk_8 (j := 45) rfl
set_option maxRecDepth 20000 in
theorem tl_159 : Cond.methodLink RL 104 yX11_worstAt ∈ lw_tbl := tk_8 (j := 42) rfl
set_option maxRecDepth 20000 in
theorem tl_160 : Cond.instanceMethod yX11_worstAt ∈ lw_tbl := tk_8 (j := 43) rfl
set_option maxRecDepth 20000 in
theorem tl_161 : Cond.selects RX11 yX11_worstAt yX11_worstAt ∈ lw_tbl := tk_8 (j := 44) rfl
set_option maxRecDepth 20000 in
theorem tl_162 : Cond.code yX10_bars cX10_bars 1 (some .int) ∈ lw_tbl := tk_5 (j := 8) rfl
set_option maxRecDepth 20000 in
theorem tl_163 : Cond.methodLink RL 105 yX10_bars ∈ lw_tbl := tk_5 (j := 5) rfl
set_option maxRecDepth 20000 in
theorem tl_164 : Cond.instanceMethod yX10_bars ∈ lw_tbl := tk_5 (j := 6) rfl
set_option maxRecDepth 20000 in
theorem tl_165 : Cond.selects RX10 yX10_bars yX10_bars ∈ lw_tbl := tk_5 (j := 7) rfl
set_option maxRecDepth 20000 in
theorem tl_166 : Cond.code yX11_bars cX11_bars 1 (some .int) ∈ lw_tbl := tk_8 (j := 49) rfl
set_option maxRecDepth 20000 in
theorem tl_167 : Cond.methodLink RL 108 yX11_bars ∈ lw_tbl := tk_8 (j := 46) rfl
set_option maxRecDepth 20000 in
theorem tl_168 : Cond.instanceMethod yX11_bars ∈ lw_tbl := tk_8 (j := 47) rfl
set_option maxRecDepth 20000 in
theorem tl_169 : Cond.selects RX11 yX11_bars yX11_bars ∈ lw_tbl := tk_8 (j := 48) rfl
set_option maxRecDepth 20000 in
theorem tl_170 : Cond.code yX10_fair cX10_fair 4 (some .int) ∈ lw_tbl := tk_5 (j := 12) rfl
set_option maxRecDepth 20000 in
theorem tl_171 : Cond.methodLink RL 109 yX10_fair ∈ lw_tbl := tk_5 (j := 9) rfl
set_option maxRecDepth 20000 in
theorem tl_172 : Cond.instanceMethod yX10_fair ∈ lw_tbl := tk_5 (j := 10) rfl
set_option maxRecDepth 20000 in
theorem tl_173 : Cond.selects RX10 yX10_fair yX10_fair ∈ lw_tbl := tk_5 (j := 11) rfl
set_option maxRecDepth 20000 in
theorem tl_174 : Cond.code yX11_fair cX11_fair 3 (some .int) ∈ lw_tbl := tk_8 (j := 53) rfl
set_option maxRecDepth 20000 in
theorem tl_175 : Cond.methodLink RL 112 yX11_fair ∈ lw_tbl := tk_8 (j := 50) rfl
set_option maxRecDepth 20000 in
theorem tl_176 : Cond.instanceMethod yX11_fair ∈ lw_tbl := tk_8 (j := 51) rfl
set_option maxRecDepth 20000 in
theorem tl_177 : Cond.selects RX11 yX11_fair yX11_fair ∈ lw_tbl := tk_8 (j := 52) rfl
set_option maxRecDepth 20000 in
theorem tl_178 : Cond.code yX10_ways cX10_ways 1 (some .int) ∈ lw_tbl := tk_5 (j := 17) rfl
set_option maxRecDepth 20000 in
theorem tl_179 : Cond.methodLink RL 113 yX10_ways ∈ lw_tbl := tk_5 (j := 14) rfl
set_option maxRecDepth 20000 in
theorem tl_180 : Cond.instanceMethod yX10_ways ∈ lw_tbl := tk_5 (j := 15) rfl
set_option maxRecDepth 20000 in
theorem tl_181 : Cond.selects RX10 yX10_ways yX10_ways ∈ lw_tbl := tk_5 (j := 16) rfl
set_option maxRecDepth 20000 in
theorem tl_182 : Cond.code yX11_ways cX11_ways 3 (some .int) ∈ lw_tbl := tk_8 (j := 57) rfl
set_option maxRecDepth 20000 in
theorem tl_183 : Cond.methodLink RL 116 yX11_ways ∈ lw_tbl := tk_8 (j := 54) rfl
set_option maxRecDepth 20000 in
theorem tl_184 : Cond.instanceMethod yX11_ways ∈ lw_tbl := tk_8 (j := 55) rfl
set_option maxRecDepth 20000 in
theorem tl_185 : Cond.selects RX11 yX11_ways yX11_ways ∈ lw_tbl := tk_8 (j := 56) rfl
set_option maxRecDepth 20000 in
theorem tl_186 : Cond.code yX10_forced cX10_forced 2 (some .int) ∈ lw_tbl := tk_5 (j := 21) rfl
set_option maxRecDepth 20000 in
theorem tl_187 : Cond.methodLink RL 117 yX10_forced ∈ lw_tbl := tk_5 (j := 18) rfl
set_option maxRecDepth 20000 in
theorem tl_188 : Cond.instanceMethod yX10_forced ∈ lw_tbl := tk_5 (j := 19) rfl
set_option maxRecDepth 20000 in
theorem tl_189 : Cond.selects RX10 yX10_forced yX10_forced ∈ lw_tbl := tk_5 (j := 20) rfl
set_option maxRecDepth 20000 in
theorem tl_190 : Cond.code yX11_forced cX11_forced 5 (some .int) ∈ lw_tbl := tk_8 (j := 69) rfl
set_option maxRecDepth 20000 in
theorem tl_191 : Cond.methodLink RL 120 yX11_forced ∈ lw_tbl := tk_8 (j := 66) rfl
set_option maxRecDepth 20000 in
theorem tl_192 : Cond.instanceMethod yX11_forced ∈ lw_tbl := tk_8 (j := 67) rfl
set_option maxRecDepth 20000 in
theorem tl_193 : Cond.selects RX11 yX11_forced yX11_forced ∈ lw_tbl := tk_8 (j := 68) rfl
set_option maxRecDepth 20000 in
theorem tl_194 : Cond.code yX10_core cX10_core 1 (some .int) ∈ lw_tbl := tk_5 (j := 29) rfl
set_option maxRecDepth 20000 in
theorem tl_195 : Cond.methodLink RL 121 yX10_core ∈ lw_tbl := tk_5 (j := 26) rfl
set_option maxRecDepth 20000 in
theorem tl_196 : Cond.instanceMethod yX10_core ∈ lw_tbl := tk_5 (j := 27) rfl
set_option maxRecDepth 20000 in
theorem tl_197 : Cond.selects RX10 yX10_core yX10_core ∈ lw_tbl := tk_5 (j := 28) rfl
set_option maxRecDepth 20000 in
theorem tl_198 : Cond.code yX11_core cX11_core 3 (some .int) ∈ lw_tbl := tk_8 (j := 73) rfl
set_option maxRecDepth 20000 in
theorem tl_199 : Cond.methodLink RL 124 yX11_core ∈ lw_tbl := tk_8 (j := 70) rfl
set_option maxRecDepth 20000 in
theorem tl_200 : Cond.instanceMethod yX11_core ∈ lw_tbl := tk_8 (j := 71) rfl
set_option maxRecDepth 20000 in
theorem tl_201 : Cond.selects RX11 yX11_core yX11_core ∈ lw_tbl := tk_8 (j := 72) rfl
set_option maxRecDepth 20000 in
theorem tl_202 : Cond.code yX10_can cX10_can 2 (some .int) ∈ lw_tbl := tk_5 (j := 37) rfl
set_option maxRecDepth 20000 in
theorem tl_203 : Cond.methodLink RL 125 yX10_can ∈ lw_tbl := tk_5 (j := 34) rfl
set_option maxRecDepth 20000 in
theorem tl_204 : Cond.instanceMethod yX10_can ∈ lw_tbl := tk_5 (j := 35) rfl
set_option maxRecDepth 20000 in
theorem tl_205 : Cond.selects RX10 yX10_can yX10_can ∈ lw_tbl := tk_5 (j := 36) rfl
set_option maxRecDepth 20000 in
theorem tl_206 : Cond.code yX11_can cX11_can 2 (some .int) ∈ lw_tbl := tk_8 (j := 81) rfl
set_option maxRecDepth 20000 in
theorem tl_207 : Cond.methodLink RL 128 yX11_can ∈ lw_tbl := tk_8 (j := 78) rfl
set_option maxRecDepth 20000 in
theorem tl_208 : Cond.instanceMethod yX11_can ∈ lw_tbl := tk_8 (j := 79) rfl
set_option maxRecDepth 20000 in
theorem tl_209 : Cond.selects RX11 yX11_can yX11_can ∈ lw_tbl := tk_8 (j := 80) rfl
set_option maxRecDepth 20000 in
theorem tl_210 : Cond.code yX10_game cX10_game 1 (some .int) ∈ lw_tbl := tk_5 (j := 45) rfl
set_option maxRecDepth 20000 in
theorem tl_211 : Cond.methodLink RL 129 yX10_game ∈ lw_tbl := tk_5 (j := 42) rfl
set_option maxRecDepth 20000 in
theorem tl_212 : Cond.instanceMethod yX10_game ∈ lw_tbl := tk_5 (j := 43) rfl
set_option maxRecDepth 20000 in
theorem tl_213 : Cond.selects RX10 yX10_game yX10_game ∈ lw_tbl := tk_5 (j := 44) rfl
set_option maxRecDepth 20000 in
theorem tl_214 : Cond.code yX11_game cX11_game 3 (some .int) ∈ lw_tbl := tk_8 (j := 85) rfl
set_option maxRecDepth 20000 in
theorem tl_215 : Cond.methodLink RL 132 yX11_game ∈ lw_tbl := tk_8 (j := 82) rfl
set_option maxRecDepth 20000 in
theorem tl_216 : Cond.instanceMethod yX11_game ∈ lw_tbl := tk_8 (j := 83) rfl
set_option maxRecDepth 20000 in
theorem tl_217 : Cond.selects RX11 yX11_game yX11_game ∈ lw_tbl := tk_8 (j := 84) rfl
set_option maxRecDepth 20000 in
theorem tl_218 : Cond.code yX10_square cX10_square 3 (some .int) ∈ lw_tbl := tk_5 (j := 56) rfl
set_option maxRecDepth 20000 in
theorem tl_219 : Cond.methodLink RL 133 yX10_square ∈ lw_tbl := tk_5 (j := 53) rfl
set_option maxRecDepth 20000 in
theorem tl_220 : Cond.instanceMethod yX10_square ∈ lw_tbl := tk_5 (j := 54) rfl
set_option maxRecDepth 20000 in
theorem tl_221 : Cond.selects RX10 yX10_square yX10_square ∈ lw_tbl := tk_5 (j := 55) rfl
set_option maxRecDepth 20000 in
theorem tl_222 : Cond.code yX11_square cX11_square 3 (some .int) ∈ lw_tbl := tk_8 (j := 89) rfl
set_option maxRecDepth 20000 in
theorem tl_223 : Cond.methodLink RL 136 yX11_square ∈ lw_tbl := tk_8 (j := 86) rfl
set_option maxRecDepth 20000 in
theorem tl_224 : Cond.instanceMethod yX11_square ∈ lw_tbl := tk_8 (j := 87) rfl
set_option maxRecDepth 20000 in
theorem tl_225 : Cond.selects RX11 yX11_square yX11_square ∈ lw_tbl := tk_8 (j := 88) rfl
set_option maxRecDepth 20000 in
theorem tl_226 : Cond.code yX10_corners cX10_corners 1 (some .int) ∈ lw_tbl := tk_5 (j := 64) rfl
set_option maxRecDepth 20000 in
theorem tl_227 : Cond.methodLink RL 137 yX10_corners ∈ lw_tbl := tk_5 (j := 61) rfl
set_option maxRecDepth 20000 in
theorem tl_228 : Cond.instanceMethod yX10_corners ∈ lw_tbl := tk_5 (j := 62) rfl
set_option maxRecDepth 20000 in
theorem tl_229 : Cond.selects RX10 yX10_corners yX10_corners ∈ lw_tbl := tk_5 (j := 63) rfl
set_option maxRecDepth 20000 in
theorem tl_230 : Cond.code yX11_corners cX11_corners 1 (some .int) ∈ lw_tbl := tk_8 (j := 101) rfl
set_option maxRecDepth 20000 in
theorem tl_231 : Cond.methodLink RL 140 yX11_corners ∈ lw_tbl := tk_8 (j := 98) rfl
set_option maxRecDepth 20000 in
theorem tl_232 : Cond.instanceMethod yX11_corners ∈ lw_tbl := tk_8 (j := 99) rfl
set_option maxRecDepth 20000 in
theorem tl_233 : Cond.selects RX11 yX11_corners yX11_corners ∈ lw_tbl := tk_8 (j := 100) rfl
set_option maxRecDepth 20000 in
theorem tl_234 : Cond.code yX10_colours cX10_colours 1 (some .int) ∈ lw_tbl := tk_5 (j := 68) rfl
set_option maxRecDepth 20000 in
theorem tl_235 : Cond.methodLink RL 141 yX10_colours ∈ lw_tbl := tk_5 (j := 65) rfl
set_option maxRecDepth 20000 in
theorem tl_236 : Cond.instanceMethod yX10_colours ∈ lw_tbl := tk_5 (j := 66) rfl
set_option maxRecDepth 20000 in
theorem tl_237 : Cond.selects RX10 yX10_colours yX10_colours ∈ lw_tbl := tk_5 (j := 67) rfl
set_option maxRecDepth 20000 in
theorem tl_238 : Cond.code yX11_colours cX11_colours 1 (some .int) ∈ lw_tbl := tk_8 (j := 109) rfl
set_option maxRecDepth 20000 in
theorem tl_239 : Cond.methodLink RL 144 yX11_colours ∈ lw_tbl := tk_8 (j := 106) rfl
set_option maxRecDepth 20000 in
theorem tl_240 : Cond.instanceMethod yX11_colours ∈ lw_tbl := tk_8 (j := 107) rfl
set_option maxRecDepth 20000 in
theorem tl_241 : Cond.selects RX11 yX11_colours yX11_colours ∈ lw_tbl := tk_8 (j := 108) rfl
set_option maxRecDepth 20000 in
theorem tl_242 : Cond.code yX10_ones cX10_ones 1 (some .int) ∈ lw_tbl := tk_5 (j := 93) rfl
set_option maxRecDepth 20000 in
theorem tl_243 : Cond.methodLink RL 145 yX10_ones ∈ lw_tbl := tk_5 (j := 90) rfl
set_option maxRecDepth 20000 in
theorem tl_244 : Cond.instanceMethod yX10_ones ∈ lw_tbl := tk_5 (j := 91) rfl
set_option maxRecDepth 20000 in
theorem tl_245 : Cond.selects RX10 yX10_ones yX10_ones ∈ lw_tbl := tk_5 (j := 92) rfl
set_option maxRecDepth 20000 in
theorem tl_246 : Cond.code yX11_ones cX11_ones 1 (some .int) ∈ lw_tbl := tk_8 (j := 126) rfl
set_option maxRecDepth 20000 in
theorem tl_247 : Cond.methodLink RL 148 yX11_ones ∈ lw_tbl := tk_8 (j := 123) rfl
set_option maxRecDepth 20000 in
theorem tl_248 : Cond.instanceMethod yX11_ones ∈ lw_tbl := tk_8 (j := 124) rfl
set_option maxRecDepth 20000 in
theorem tl_249 : Cond.selects RX11 yX11_ones yX11_ones ∈ lw_tbl := tk_8 (j := 125) rfl
set_option maxRecDepth 20000 in
theorem tl_250 : Cond.code yX10_spare cX10_spare 1 (some .int) ∈ lw_tbl := tk_5 (j := 97) rfl
set_option maxRecDepth 20000 in
theorem tl_251 : Cond.methodLink RL 149 yX10_spare ∈ lw_tbl := tk_5 (j := 94) rfl
set_option maxRecDepth 20000 in
theorem tl_252 : Cond.instanceMethod yX10_spare ∈ lw_tbl := tk_5 (j := 95) rfl
set_option maxRecDepth 20000 in
theorem tl_253 : Cond.selects RX10 yX10_spare yX10_spare ∈ lw_tbl := tk_5 (j := 96) rfl
set_option maxRecDepth 20000 in
theorem tl_254 : Cond.code yX11_spare cX11_spare 3 (some .int) ∈ lw_tbl := tk_8 (j := 130) rfl
set_option maxRecDepth 20000 in
theorem tl_255 : Cond.methodLink RL 152 yX11_spare ∈ lw_tbl := tk_8 (j := 127) rfl
set_option maxRecDepth 20000 in
theorem tl_256 : Cond.instanceMethod yX11_spare ∈ lw_tbl := tk_8 (j := 128) rfl
set_option maxRecDepth 20000 in
theorem tl_257 : Cond.selects RX11 yX11_spare yX11_spare ∈ lw_tbl := tk_8 (j := 129) rfl
set_option maxRecDepth 20000 in
theorem tl_258 : Cond.code yX10_critical cX10_critical 1 (some .int) ∈ lw_tbl := tk_5 (j := 101) rfl
set_option maxRecDepth 20000 in
theorem tl_259 : Cond.methodLink RL 153 yX10_critical ∈ lw_tbl := tk_5 (j := 98) rfl
set_option maxRecDepth 20000 in
theorem tl_260 : Cond.instanceMethod yX10_critical ∈ lw_tbl := tk_5 (j := 99) rfl
set_option maxRecDepth 20000 in
theorem tl_261 : Cond.selects RX10 yX10_critical yX10_critical ∈ lw_tbl := tk_5 (j := 100) rfl
set_option maxRecDepth 20000 in
theorem tl_262 : Cond.code yX11_critical cX11_critical 3 (some .int) ∈ lw_tbl := tk_8 (j := 138) rfl
set_option maxRecDepth 20000 in
theorem tl_263 : Cond.methodLink RL 156 yX11_critical ∈ lw_tbl := tk_8 (j := 135) rfl
set_option maxRecDepth 20000 in
theorem tl_264 : Cond.instanceMethod yX11_critical ∈ lw_tbl := tk_8 (j := 136) rfl
set_option maxRecDepth 20000 in
theorem tl_265 : Cond.selects RX11 yX11_critical yX11_critical ∈ lw_tbl := tk_8 (j := 137) rfl
set_option maxRecDepth 20000 in
theorem tl_266 : Cond.code yX10_memory cX10_memory 1 (some .int) ∈ lw_tbl := tk_5 (j := 105) rfl
set_option maxRecDepth 20000 in
theorem tl_267 : Cond.methodLink RL 157 yX10_memory ∈ lw_tbl := tk_5 (j := 102) rfl
set_option maxRecDepth 20000 in
theorem tl_268 : Cond.instanceMethod yX10_memory ∈ lw_tbl := tk_5 (j := 103) rfl
set_option maxRecDepth 20000 in
theorem tl_269 : Cond.selects RX10 yX10_memory yX10_memory ∈ lw_tbl := tk_5 (j := 104) rfl
set_option maxRecDepth 20000 in
theorem tl_270 : Cond.code yX11_memory cX11_memory 1 (some .int) ∈ lw_tbl := tk_8 (j := 142) rfl
set_option maxRecDepth 20000 in
theorem tl_271 : Cond.methodLink RL 160 yX11_memory ∈ lw_tbl := tk_8 (j := 139) rfl
set_option maxRecDepth 20000 in
theorem tl_272 : Cond.instanceMethod yX11_memory ∈ lw_tbl := tk_8 (j := 140) rfl
set_option maxRecDepth 20000 in
theorem tl_273 : Cond.selects RX11 yX11_memory yX11_memory ∈ lw_tbl := tk_8 (j := 141) rfl
set_option maxRecDepth 20000 in
theorem tl_274 : Cond.code yX10_machine cX10_machine 4 (some .int) ∈ lw_tbl := tk_5 (j := 123) rfl
set_option maxRecDepth 20000 in
theorem tl_275 : Cond.methodLink RL 161 yX10_machine ∈ lw_tbl := tk_5 (j := 120) rfl
set_option maxRecDepth 20000 in
theorem tl_276 : Cond.instanceMethod yX10_machine ∈ lw_tbl := tk_5 (j := 121) rfl
set_option maxRecDepth 20000 in
theorem tl_277 : Cond.selects RX10 yX10_machine yX10_machine ∈ lw_tbl := tk_5 (j := 122) rfl
set_option maxRecDepth 20000 in
theorem tl_278 : Cond.code yX11_machine cX11_machine 5 (some .int) ∈ lw_tbl := tk_8 (j := 154) rfl
set_option maxRecDepth 20000 in
theorem tl_279 : Cond.methodLink RL 165 yX11_machine ∈ lw_tbl := tk_8 (j := 151) rfl
set_option maxRecDepth 20000 in
theorem tl_280 : Cond.instanceMethod yX11_machine ∈ lw_tbl := tk_8 (j := 152) rfl
set_option maxRecDepth 20000 in
theorem tl_281 : Cond.selects RX11 yX11_machine yX11_machine ∈ lw_tbl := tk_8 (j := 153) rfl
set_option maxRecDepth 20000 in
theorem tl_282 : Cond.code yX10_flip cX10_flip 2 (some .boolean) ∈ lw_tbl := tk_5 (j := 131) rfl
set_option maxRecDepth 20000 in
theorem tl_283 : Cond.methodLink RL 166 yX10_flip ∈ lw_tbl := tk_5 (j := 128) rfl
set_option maxRecDepth 20000 in
theorem tl_284 : Cond.instanceMethod yX10_flip ∈ lw_tbl := tk_5 (j := 129) rfl
set_option maxRecDepth 20000 in
theorem tl_285 : Cond.selects RX10 yX10_flip yX10_flip ∈ lw_tbl := tk_5 (j := 130) rfl
set_option maxRecDepth 20000 in
theorem tl_286 : Cond.code yX11_flip cX11_flip 9 (some .boolean) ∈ lw_tbl := tk_8 (j := 158) rfl
set_option maxRecDepth 20000 in
theorem tl_287 : Cond.methodLink RL 170 yX11_flip ∈ lw_tbl := tk_8 (j := 155) rfl
set_option maxRecDepth 20000 in
theorem tl_288 : Cond.instanceMethod yX11_flip ∈ lw_tbl := tk_8 (j := 156) rfl
set_option maxRecDepth 20000 in
theorem tl_289 : Cond.selects RX11 yX11_flip yX11_flip ∈ lw_tbl := tk_8 (j := 157) rfl
set_option maxRecDepth 20000 in
theorem tl_290 : Cond.code yX10_drop cX10_drop 2 (some .boolean) ∈ lw_tbl := tk_5 (j := 155) rfl
set_option maxRecDepth 20000 in
theorem tl_291 : Cond.methodLink RL 171 yX10_drop ∈ lw_tbl := tk_5 (j := 152) rfl
set_option maxRecDepth 20000 in
theorem tl_292 : Cond.instanceMethod yX10_drop ∈ lw_tbl := tk_5 (j := 153) rfl
set_option maxRecDepth 20000 in
theorem tl_293 : Cond.selects RX10 yX10_drop yX10_drop ∈ lw_tbl := tk_5 (j := 154) rfl
set_option maxRecDepth 20000 in
theorem tl_294 : Cond.code yX11_drop cX11_drop 2 (some .boolean) ∈ lw_tbl := tk_8 (j := 172) rfl
set_option maxRecDepth 20000 in
theorem tl_295 : Cond.methodLink RL 174 yX11_drop ∈ lw_tbl := tk_8 (j := 169) rfl
set_option maxRecDepth 20000 in
theorem tl_296 : Cond.instanceMethod yX11_drop ∈ lw_tbl := tk_8 (j := 170) rfl
set_option maxRecDepth 20000 in
theorem tl_297 : Cond.selects RX11 yX11_drop yX11_drop ∈ lw_tbl := tk_8 (j := 171) rfl
set_option maxRecDepth 20000 in
theorem tl_298 : Cond.code yX10_forget cX10_forget 2 (some .boolean) ∈ lw_tbl := tk_5 (j := 164) rfl
set_option maxRecDepth 20000 in
theorem tl_299 : Cond.methodLink RL 175 yX10_forget ∈ lw_tbl := tk_5 (j := 161) rfl
set_option maxRecDepth 20000 in
theorem tl_300 : Cond.instanceMethod yX10_forget ∈ lw_tbl := tk_5 (j := 162) rfl
set_option maxRecDepth 20000 in
theorem tl_301 : Cond.selects RX10 yX10_forget yX10_forget ∈ lw_tbl := tk_5 (j := 163) rfl
set_option maxRecDepth 20000 in
theorem tl_302 : Cond.code yX11_forget cX11_forget 9 (some .boolean) ∈ lw_tbl := tk_8 (j := 180) rfl
set_option maxRecDepth 20000 in
theorem tl_303 : Cond.methodLink RL 178 yX11_forget ∈ lw_tbl := tk_8 (j := 177) rfl
set_option maxRecDepth 20000 in
theorem tl_304 : Cond.instanceMethod yX11_forget ∈ lw_tbl := tk_8 (j := 178) rfl
set_option maxRecDepth 20000 in
theorem tl_305 : Cond.selects RX11 yX11_forget yX11_forget ∈ lw_tbl := tk_8 (j := 179) rfl
set_option maxRecDepth 20000 in
theorem tl_306 : Cond.code yX10_shift cX10_shift 5 (some .boolean) ∈ lw_tbl := tk_5 (j := 181) rfl
set_option maxRecDepth 20000 in
theorem tl_307 : Cond.methodLink RL 179 yX10_shift ∈ lw_tbl := tk_5 (j := 178) rfl
set_option maxRecDepth 20000 in
theorem tl_308 : Cond.instanceMethod yX10_shift ∈ lw_tbl := tk_5 (j := 179) rfl
set_option maxRecDepth 20000 in
theorem tl_309 : Cond.selects RX10 yX10_shift yX10_shift ∈ lw_tbl := tk_5 (j := 180) rfl
set_option maxRecDepth 20000 in
theorem tl_310 : Cond.code yX11_shift cX11_shift 5 (some .boolean) ∈ lw_tbl := tk_8 (j := 184) rfl
set_option maxRecDepth 20000 in
theorem tl_311 : Cond.methodLink RL 183 yX11_shift ∈ lw_tbl := tk_8 (j := 181) rfl
set_option maxRecDepth 20000 in
theorem tl_312 : Cond.instanceMethod yX11_shift ∈ lw_tbl := tk_8 (j := 182) rfl
set_option maxRecDepth 20000 in
theorem tl_313 : Cond.selects RX11 yX11_shift yX11_shift ∈ lw_tbl := tk_8 (j := 183) rfl
set_option maxRecDepth 20000 in
theorem tl_314 : Cond.code yX10_undo cX10_undo 1 (some .boolean) ∈ lw_tbl := tk_5 (j := 193) rfl
set_option maxRecDepth 20000 in
theorem tl_315 : Cond.methodLink RL 184 yX10_undo ∈ lw_tbl := tk_5 (j := 190) rfl
set_option maxRecDepth 20000 in
theorem tl_316 : Cond.instanceMethod yX10_undo ∈ lw_tbl := tk_5 (j := 191) rfl
set_option maxRecDepth 20000 in
theorem tl_317 : Cond.selects RX10 yX10_undo yX10_undo ∈ lw_tbl := tk_5 (j := 192) rfl
set_option maxRecDepth 20000 in
theorem tl_318 : Cond.code yX11_undo cX11_undo 2 (some .boolean) ∈ lw_tbl := tk_8 (j := 188) rfl
set_option maxRecDepth 20000 in
theorem tl_319 : Cond.methodLink RL 188 yX11_undo ∈ lw_tbl := tk_8 (j := 185) rfl
set_option maxRecDepth 20000 in
theorem tl_320 : Cond.instanceMethod yX11_undo ∈ lw_tbl := tk_8 (j := 186) rfl
set_option maxRecDepth 20000 in
theorem tl_321 : Cond.selects RX11 yX11_undo yX11_undo ∈ lw_tbl := tk_8 (j := 187) rfl
set_option maxRecDepth 20000 in
theorem tl_322 : Cond.code yX10_redo cX10_redo 1 (some .boolean) ∈ lw_tbl := tk_5 (j := 205) rfl
set_option maxRecDepth 20000 in
theorem tl_323 : Cond.methodLink RL 189 yX10_redo ∈ lw_tbl := tk_5 (j := 202) rfl
set_option maxRecDepth 20000 in
theorem tl_324 : Cond.instanceMethod yX10_redo ∈ lw_tbl := tk_5 (j := 203) rfl
set_option maxRecDepth 20000 in
theorem tl_325 : Cond.selects RX10 yX10_redo yX10_redo ∈ lw_tbl := tk_5 (j := 204) rfl
set_option maxRecDepth 20000 in
theorem tl_326 : Cond.code yX11_redo cX11_redo 2 (some .boolean) ∈ lw_tbl := tk_8 (j := 192) rfl
set_option maxRecDepth 20000 in
theorem tl_327 : Cond.methodLink RL 192 yX11_redo ∈ lw_tbl := tk_8 (j := 189) rfl
set_option maxRecDepth 20000 in
theorem tl_328 : Cond.instanceMethod yX11_redo ∈ lw_tbl := tk_8 (j := 190) rfl
set_option maxRecDepth 20000 in
theorem tl_329 : Cond.selects RX11 yX11_redo yX11_redo ∈ lw_tbl := tk_8 (j := 191) rfl
set_option maxRecDepth 20000 in
theorem tl_330 : Cond.code yX10_mark cX10_mark 1 (some .int) ∈ lw_tbl := tk_5 (j := 213) rfl
set_option maxRecDepth 20000 in
theorem tl_331 : Cond.methodLink RL 193 yX10_mark ∈ lw_tbl := tk_5 (j := 210) rfl
set_option maxRecDepth 20000 in
theorem tl_332 : Cond.instanceMethod yX10_mark ∈ lw_tbl := tk_5 (j := 211) rfl
set_option maxRecDepth 20000 in
theorem tl_333 : Cond.selects RX10 yX10_mark yX10_mark ∈ lw_tbl := tk_5 (j := 212) rfl
set_option maxRecDepth 20000 in
theorem tl_334 : Cond.code yX11_mark cX11_mark 1 (some .int) ∈ lw_tbl := tk_8 (j := 196) rfl
set_option maxRecDepth 20000 in
theorem tl_335 : Cond.methodLink RL 196 yX11_mark ∈ lw_tbl := tk_8 (j := 193) rfl
set_option maxRecDepth 20000 in
theorem tl_336 : Cond.instanceMethod yX11_mark ∈ lw_tbl := tk_8 (j := 194) rfl
set_option maxRecDepth 20000 in
theorem tl_337 : Cond.selects RX11 yX11_mark yX11_mark ∈ lw_tbl := tk_8 (j := 195) rfl
set_option maxRecDepth 20000 in
theorem tl_338 : Cond.code yX10_back cX10_back 2 (some .boolean) ∈ lw_tbl := tk_5 (j := 221) rfl
set_option maxRecDepth 20000 in
theorem tl_339 : Cond.methodLink RL 197 yX10_back ∈ lw_tbl := tk_5 (j := 218) rfl
set_option maxRecDepth 20000 in
theorem tl_340 : Cond.instanceMethod yX10_back ∈ lw_tbl := tk_5 (j := 219) rfl
set_option maxRecDepth 20000 in
theorem tl_341 : Cond.selects RX10 yX10_back yX10_back ∈ lw_tbl := tk_5 (j := 220) rfl
set_option maxRecDepth 20000 in
theorem tl_342 : Cond.code yX11_back cX11_back 2 (some .boolean) ∈ lw_tbl := tk_8 (j := 200) rfl
set_option maxRecDepth 20000 in
theorem tl_343 : Cond.methodLink RL 200 yX11_back ∈ lw_tbl := tk_8 (j := 197) rfl
set_option maxRecDepth 20000 in
theorem tl_344 : Cond.instanceMethod yX11_back ∈ lw_tbl := tk_8 (j := 198) rfl
set_option maxRecDepth 20000 in
theorem tl_345 : Cond.selects RX11 yX11_back yX11_back ∈ lw_tbl := tk_8 (j := 199) rfl
set_option maxRecDepth 20000 in
theorem tl_346 : Cond.code yX10_act cX10_act 3 (some .int) ∈ lw_tbl := tk_5 (j := 229) rfl
set_option maxRecDepth 20000 in
theorem tl_347 : Cond.methodLink RL 201 yX10_act ∈ lw_tbl := tk_5 (j := 226) rfl
set_option maxRecDepth 20000 in
theorem tl_348 : Cond.instanceMethod yX10_act ∈ lw_tbl := tk_5 (j := 227) rfl
set_option maxRecDepth 20000 in
theorem tl_349 : Cond.selects RX10 yX10_act yX10_act ∈ lw_tbl := tk_5 (j := 228) rfl
set_option maxRecDepth 20000 in
theorem tl_350 : Cond.code yX11_act cX11_act 3 (some .int) ∈ lw_tbl := tk_8 (j := 204) rfl
set_option maxRecDepth 20000 in
theorem tl_351 : Cond.methodLink RL 204 yX11_act ∈ lw_tbl := tk_8 (j := 201) rfl
set_option maxRecDepth 20000 in
theorem tl_352 : Cond.instanceMethod yX11_act ∈ lw_tbl := tk_8 (j := 202) rfl
set_option maxRecDepth 20000 in
theorem tl_353 : Cond.selects RX11 yX11_act yX11_act ∈ lw_tbl := tk_8 (j := 203) rfl
set_option maxRecDepth 20000 in
theorem tl_354 : Cond.code yX10_times cX10_times 3 (some .int) ∈ lw_tbl := tk_5 (j := 233) rfl
set_option maxRecDepth 20000 in
theorem tl_355 : Cond.methodLink RL 205 yX10_times ∈ lw_tbl := tk_5 (j := 230) rfl
set_option maxRecDepth 20000 in
theorem tl_356 : Cond.instanceMethod yX10_times ∈ lw_tbl := tk_5 (j := 231) rfl
set_option maxRecDepth 20000 in
theorem tl_357 : Cond.selects RX10 yX10_times yX10_times ∈ lw_tbl := tk_5 (j := 232) rfl
set_option maxRecDepth 20000 in
theorem tl_358 : Cond.code yX11_times cX11_times 3 (some .int) ∈ lw_tbl := tk_8 (j := 208) rfl
set_option maxRecDepth 20000 in
theorem tl_359 : Cond.methodLink RL 208 yX11_times ∈ lw_tbl := tk_8 (j := 205) rfl
set_option maxRecDepth 20000 in
theorem tl_360 : Cond.instanceMethod yX11_times ∈ lw_tbl := tk_8 (j := 206) rfl
set_option maxRecDepth 20000 in
theorem tl_361 : Cond.selects RX11 yX11_times yX11_times ∈ lw_tbl := tk_8 (j := 207) rfl
set_option maxRecDepth 20000 in
theorem tl_362 : Cond.code yX10_look cX10_look 3 (some .int) ∈ lw_tbl := tk_5 (j := 237) rfl
set_option maxRecDepth 20000 in
theorem tl_363 : Cond.methodLink RL 209 yX10_look ∈ lw_tbl := tk_5 (j := 234) rfl
set_option maxRecDepth 20000 in
theorem tl_364 : Cond.instanceMethod yX10_look ∈ lw_tbl := tk_5 (j := 235) rfl
set_option maxRecDepth 20000 in
theorem tl_365 : Cond.selects RX10 yX10_look yX10_look ∈ lw_tbl := tk_5 (j := 236) rfl
set_option maxRecDepth 20000 in
theorem tl_366 : Cond.code yX11_look cX11_look 3 (some .int) ∈ lw_tbl := tk_8 (j := 212) rfl
set_option maxRecDepth 20000 in
theorem tl_367 : Cond.methodLink RL 213 yX11_look ∈ lw_tbl := tk_8 (j := 209) rfl
set_option maxRecDepth 20000 in
theorem tl_368 : Cond.instanceMethod yX11_look ∈ lw_tbl := tk_8 (j := 210) rfl
set_option maxRecDepth 20000 in
theorem tl_369 : Cond.selects RX11 yX11_look yX11_look ∈ lw_tbl := tk_8 (j := 211) rfl
set_option maxRecDepth 20000 in
theorem tl_370 : Cond.code yX10_coins cX10_coins 3 (some .int) ∈ lw_tbl := tk_6 (j := 1) rfl
set_option maxRecDepth 20000 in
theorem tl_371 : Cond.methodLink RL 214 yX10_coins ∈ lw_tbl := tk_5 (j := 238) rfl
set_option maxRecDepth 20000 in
theorem tl_372 : Cond.instanceMethod yX10_coins ∈ lw_tbl := tk_5 (j := 239) rfl
set_option maxRecDepth 20000 in
theorem tl_373 : Cond.selects RX10 yX10_coins yX10_coins ∈ lw_tbl := tk_6 (j := 0) rfl
set_option maxRecDepth 20000 in
theorem tl_374 : Cond.code yX11_coins cX11_coins 3 (some .int) ∈ lw_tbl := tk_8 (j := 216) rfl
set_option maxRecDepth 20000 in
theorem tl_375 : Cond.methodLink RL 217 yX11_coins ∈ lw_tbl := tk_8 (j := 213) rfl
set_option maxRecDepth 20000 in
theorem tl_376 : Cond.instanceMethod yX11_coins ∈ lw_tbl := tk_8 (j := 214) rfl
set_option maxRecDepth 20000 in
theorem tl_377 : Cond.selects RX11 yX11_coins yX11_coins ∈ lw_tbl := tk_8 (j := 215) rfl
set_option maxRecDepth 20000 in
theorem tl_378 : Cond.code yX10_size cX10_size 2 (some .int) ∈ lw_tbl := tk_6 (j := 5) rfl
set_option maxRecDepth 20000 in
theorem tl_379 : Cond.methodLink RL 224 yX10_size ∈ lw_tbl := tk_6 (j := 2) rfl
set_option maxRecDepth 20000 in
theorem tl_380 : Cond.instanceMethod yX10_size ∈ lw_tbl := tk_6 (j := 3) rfl
set_option maxRecDepth 20000 in
theorem tl_381 : Cond.selects RX10 yX10_size yX10_size ∈ lw_tbl := tk_6 (j := 4) rfl
set_option maxRecDepth 20000 in
theorem tl_382 : Cond.code yX11_size cX11_size 2 (some .int) ∈ lw_tbl := tk_8 (j := 224) rfl
set_option maxRecDepth 20000 in
theorem tl_383 : Cond.methodLink RL 227 yX11_size ∈ lw_tbl := tk_8 (j := 221) rfl
set_option maxRecDepth 20000 in
theorem tl_384 : Cond.instanceMethod yX11_size ∈ lw_tbl := tk_8 (j := 222) rfl
set_option maxRecDepth 20000 in
theorem tl_385 : Cond.selects RX11 yX11_size yX11_size ∈ lw_tbl := tk_8 (j := 223) rfl
set_option maxRecDepth 20000 in
theorem tl_386 : Cond.code yX10_trouble cX10_trouble 1 (some .int) ∈ lw_tbl := tk_6 (j := 9) rfl
set_option maxRecDepth 20000 in
theorem tl_387 : Cond.methodLink RL 228 yX10_trouble ∈ lw_tbl := tk_6 (j := 6) rfl
set_option maxRecDepth 20000 in
theorem tl_388 : Cond.instanceMethod yX10_trouble ∈ lw_tbl := tk_6 (j := 7) rfl
set_option maxRecDepth 20000 in
theorem tl_389 : Cond.selects RX10 yX10_trouble yX10_trouble ∈ lw_tbl := tk_6 (j := 8) rfl
set_option maxRecDepth 20000 in
theorem tl_390 : Cond.code yX11_trouble cX11_trouble 1 (some .int) ∈ lw_tbl := tk_8 (j := 228) rfl
set_option maxRecDepth 20000 in
theorem tl_391 : Cond.methodLink RL 231 yX11_trouble ∈ lw_tbl := tk_8 (j := 225) rfl
set_option maxRecDepth 20000 in
theorem tl_392 : Cond.instanceMethod yX11_trouble ∈ lw_tbl := tk_8 (j := 226) rfl
set_option maxRecDepth 20000 in
theorem tl_393 : Cond.selects RX11 yX11_trouble yX11_trouble ∈ lw_tbl := tk_8 (j := 227) rfl
set_option maxRecDepth 20000 in
theorem tl_394 : Cond.code yX11_led cX11_led 5 (some .int) ∈ lw_tbl := tk_8 (j := 220) rfl
set_option maxRecDepth 20000 in
theorem tl_395 : Cond.methodLink RL 223 yX11_led ∈ lw_tbl := tk_8 (j := 217) rfl
set_option maxRecDepth 20000 in
theorem tl_396 : Cond.instanceMethod yX11_led ∈ lw_tbl := tk_8 (j := 218) rfl
set_option maxRecDepth 20000 in
theorem tl_397 : Cond.selects RX11 yX11_led yX11_led ∈ lw_tbl := tk_8 (j := 219) rfl
set_option maxRecDepth 100000 in
theorem lk_L_19 : mLk RL 19 yX10_feed uX10_feed 5 := ⟨tl_0, tl_1, tl_2, by decide +kernel, Nat.le_of_ble_eq_true rfl⟩
set_option maxRecDepth 100000 in
theorem cl_L_19 {g : gT} {pc : Nat} {lv st : List Value} {h : mh_T} {Q : Nat × Nat} {a1 a2 a3 a4 a5 : Value} (hd : decode uL.2.1 pc = .ok (.invokevirtual 19, 3)) (hq : Q.1 ≤ 601024 ∧ Q.2 ≤ 7293034) (hst : (st.map fun v => v.category).sum ≤ 8) (hM : MC g yX10_feed uX10_feed [.ref 0, a1, a2, a3, a4, a5] h (fun v h' => LE g uL (pc + 3) lv (v.toList ++ st) h' Q)) : LE g uL pc lv (a5 :: a4 :: a3 :: a2 :: a1 :: .ref 0 :: st) h Q := l_callV (As := [a1, a2, a3, a4, a5]) (n := 5) (ci := 10) (k := 0) (q := (RX10, TX10, 14)) hd lk_L_19 tl_3 tl_4 rfl rfl (by decide) (by decide) rfl (by decide) hq hst hM
set_option maxRecDepth 100000 in
theorem lk_L_23 : mLk RL 23 yX11_feed uX11_feed 5 := ⟨tl_5, tl_6, tl_7, by decide +kernel, Nat.le_of_ble_eq_true rfl⟩
set_option maxRecDepth 100000 in
theorem cl_L_23 {g : gT} {pc : Nat} {lv st : List Value} {h : mh_T} {Q : Nat × Nat} {a1 a2 a3 a4 a5 : Value} (hd : decode uL.2.1 pc = .ok (.invokevirtual 23, 3)) (hq : Q.1 ≤ 601024 ∧ Q.2 ≤ 7293034) (hst : (st.map fun v => v.category).sum ≤ 8) (hM : MC g yX11_feed uX11_feed [.ref 11, a1, a2, a3, a4, a5] h (fun v h' => LE g uL (pc + 3) lv (v.toList ++ st) h' Q)) : LE g uL pc lv (a5 :: a4 :: a3 :: a2 :: a1 :: .ref 11 :: st) h Q := l_callV (As := [a1, a2, a3, a4, a5]) (n := 5) (ci := 11) (k := 11) (q := (RX11, TX11, 40)) hd lk_L_23 tl_8 tl_9 rfl rfl (by decide) (by decide) rfl (by decide) hq hst hM
set_option maxRecDepth 100000 in
theorem lk_L_24 : mLk RL 24 yX10_book uX10_book 1 := ⟨tl_10, tl_11, tl_2, by decide +kernel, Nat.le_of_ble_eq_true rfl⟩
set_option maxRecDepth 100000 in
theorem cl_L_24 {g : gT} {pc : Nat} {lv st : List Value} {h : mh_T} {Q : Nat × Nat} {a1 : Value} (hd : decode uL.2.1 pc = .ok (.invokevirtual 24, 3)) (hq : Q.1 ≤ 601024 ∧ Q.2 ≤ 7293034) (hst : (st.map fun v => v.category).sum ≤ 8) (hM : MC g yX10_book uX10_book [.ref 0, a1] h (fun v h' => LE g uL (pc + 3) lv (v.toList ++ st) h' Q)) : LE g uL pc lv (a1 :: .ref 0 :: st) h Q := l_callV (As := [a1]) (n := 1) (ci := 10) (k := 0) (q := (RX10, TX10, 14)) hd lk_L_24 tl_12 tl_13 rfl rfl (by decide) (by decide) rfl (by decide) hq hst hM
set_option maxRecDepth 100000 in
theorem lk_L_27 : mLk RL 27 yX11_book uX11_book 1 := ⟨tl_14, tl_15, tl_7, by decide +kernel, Nat.le_of_ble_eq_true rfl⟩
set_option maxRecDepth 100000 in
theorem cl_L_27 {g : gT} {pc : Nat} {lv st : List Value} {h : mh_T} {Q : Nat × Nat} {a1 : Value} (hd : decode uL.2.1 pc = .ok (.invokevirtual 27, 3)) (hq : Q.1 ≤ 601024 ∧ Q.2 ≤ 7293034) (hst : (st.map fun v => v.category).sum ≤ 8) (hM : MC g yX11_book uX11_book [.ref 11, a1] h (fun v h' => LE g uL (pc + 3) lv (v.toList ++ st) h' Q)) : LE g uL pc lv (a1 :: .ref 11 :: st) h Q := l_callV (As := [a1]) (n := 1) (ci := 11) (k := 11) (q := (RX11, TX11, 40)) hd lk_L_27 tl_16 tl_17 rfl rfl (by decide) (by decide) rfl (by decide) hq hst hM
set_option maxRecDepth 100000 in
theorem lk_L_28 : mLk RL 28 yX10_fault uX10_fault 0 := ⟨tl_18, tl_19, tl_2, by decide +kernel, Nat.le_of_ble_eq_true rfl⟩
set_option maxRecDepth 100000 in
theorem cl_L_28 {g : gT} {pc : Nat} {lv st : List Value} {h : mh_T} {Q : Nat × Nat} (hd : decode uL.2.1 pc = .ok (.invokevirtual 28, 3)) (hq : Q.1 ≤ 601024 ∧ Q.2 ≤ 7293034) (hst : (st.map fun v => v.category).sum ≤ 8) (hM : MC g yX10_fault uX10_fault [.ref 0] h (fun v h' => LE g uL (pc + 3) lv (v.toList ++ st) h' Q)) : LE g uL pc lv (.ref 0 :: st) h Q := l_callV (As := []) (n := 0) (ci := 10) (k := 0) (q := (RX10, TX10, 14)) hd lk_L_28 tl_20 tl_21 rfl rfl (by decide) (by decide) rfl (by decide) hq hst hM
set_option maxRecDepth 100000 in
theorem lk_L_32 : mLk RL 32 yX11_fault uX11_fault 0 := ⟨tl_22, tl_23, tl_7, by decide +kernel, Nat.le_of_ble_eq_true rfl⟩
set_option maxRecDepth 100000 in
theorem cl_L_32 {g : gT} {pc : Nat} {lv st : List Value} {h : mh_T} {Q : Nat × Nat} (hd : decode uL.2.1 pc = .ok (.invokevirtual 32, 3)) (hq : Q.1 ≤ 601024 ∧ Q.2 ≤ 7293034) (hst : (st.map fun v => v.category).sum ≤ 8) (hM : MC g yX11_fault uX11_fault [.ref 11] h (fun v h' => LE g uL (pc + 3) lv (v.toList ++ st) h' Q)) : LE g uL pc lv (.ref 11 :: st) h Q := l_callV (As := []) (n := 0) (ci := 11) (k := 11) (q := (RX11, TX11, 40)) hd lk_L_32 tl_24 tl_25 rfl rfl (by decide) (by decide) rfl (by decide) hq hst hM
set_option maxRecDepth 100000 in
theorem lk_L_33 : mLk RL 33 yX10_where uX10_where 0 := ⟨tl_26, tl_27, tl_2, by decide +kernel, Nat.le_of_ble_eq_true rfl⟩
set_option maxRecDepth 100000 in
theorem cl_L_33 {g : gT} {pc : Nat} {lv st : List Value} {h : mh_T} {Q : Nat × Nat} (hd : decode uL.2.1 pc = .ok (.invokevirtual 33, 3)) (hq : Q.1 ≤ 601024 ∧ Q.2 ≤ 7293034) (hst : (st.map fun v => v.category).sum ≤ 8) (hM : MC g yX10_where uX10_where [.ref 0] h (fun v h' => LE g uL (pc + 3) lv (v.toList ++ st) h' Q)) : LE g uL pc lv (.ref 0 :: st) h Q := l_callV (As := []) (n := 0) (ci := 10) (k := 0) (q := (RX10, TX10, 14)) hd lk_L_33 tl_28 tl_29 rfl rfl (by decide) (by decide) rfl (by decide) hq hst hM
set_option maxRecDepth 100000 in
theorem lk_L_36 : mLk RL 36 yX11_where uX11_where 0 := ⟨tl_30, tl_31, tl_7, by decide +kernel, Nat.le_of_ble_eq_true rfl⟩
set_option maxRecDepth 100000 in
theorem cl_L_36 {g : gT} {pc : Nat} {lv st : List Value} {h : mh_T} {Q : Nat × Nat} (hd : decode uL.2.1 pc = .ok (.invokevirtual 36, 3)) (hq : Q.1 ≤ 601024 ∧ Q.2 ≤ 7293034) (hst : (st.map fun v => v.category).sum ≤ 8) (hM : MC g yX11_where uX11_where [.ref 11] h (fun v h' => LE g uL (pc + 3) lv (v.toList ++ st) h' Q)) : LE g uL pc lv (.ref 11 :: st) h Q := l_callV (As := []) (n := 0) (ci := 11) (k := 11) (q := (RX11, TX11, 40)) hd lk_L_36 tl_32 tl_33 rfl rfl (by decide) (by decide) rfl (by decide) hq hst hM
set_option maxRecDepth 100000 in
theorem lk_L_37 : mLk RL 37 yX10_share uX10_share 1 := ⟨tl_34, tl_35, tl_2, by decide +kernel, Nat.le_of_ble_eq_true rfl⟩
set_option maxRecDepth 100000 in
theorem cl_L_37 {g : gT} {pc : Nat} {lv st : List Value} {h : mh_T} {Q : Nat × Nat} {a1 : Value} (hd : decode uL.2.1 pc = .ok (.invokevirtual 37, 3)) (hq : Q.1 ≤ 601024 ∧ Q.2 ≤ 7293034) (hst : (st.map fun v => v.category).sum ≤ 8) (hM : MC g yX10_share uX10_share [.ref 0, a1] h (fun v h' => LE g uL (pc + 3) lv (v.toList ++ st) h' Q)) : LE g uL pc lv (a1 :: .ref 0 :: st) h Q := l_callV (As := [a1]) (n := 1) (ci := 10) (k := 0) (q := (RX10, TX10, 14)) hd lk_L_37 tl_36 tl_37 rfl rfl (by decide) (by decide) rfl (by decide) hq hst hM
set_option maxRecDepth 100000 in
theorem lk_L_41 : mLk RL 41 yX11_share uX11_share 1 := ⟨tl_38, tl_39, tl_7, by decide +kernel, Nat.le_of_ble_eq_true rfl⟩
set_option maxRecDepth 100000 in
theorem cl_L_41 {g : gT} {pc : Nat} {lv st : List Value} {h : mh_T} {Q : Nat × Nat} {a1 : Value} (hd : decode uL.2.1 pc = .ok (.invokevirtual 41, 3)) (hq : Q.1 ≤ 601024 ∧ Q.2 ≤ 7293034) (hst : (st.map fun v => v.category).sum ≤ 8) (hM : MC g yX11_share uX11_share [.ref 11, a1] h (fun v h' => LE g uL (pc + 3) lv (v.toList ++ st) h' Q)) : LE g uL pc lv (a1 :: .ref 11 :: st) h Q := l_callV (As := [a1]) (n := 1) (ci := 11) (k := 11) (q := (RX11, TX11, 40)) hd lk_L_41 tl_40 tl_41 rfl rfl (by decide) (by decide) rfl (by decide) hq hst hM
set_option maxRecDepth 100000 in
theorem lk_L_42 : mLk RL 42 yX10_together uX10_together 6 := ⟨tl_42, tl_43, tl_2, by decide +kernel, Nat.le_of_ble_eq_true rfl⟩
set_option maxRecDepth 100000 in
theorem cl_L_42 {g : gT} {pc : Nat} {lv st : List Value} {h : mh_T} {Q : Nat × Nat} {a1 a2 a3 a4 a5 a6 : Value} (hd : decode uL.2.1 pc = .ok (.invokevirtual 42, 3)) (hq : Q.1 ≤ 601024 ∧ Q.2 ≤ 7293034) (hst : (st.map fun v => v.category).sum ≤ 8) (hM : MC g yX10_together uX10_together [.ref 0, a1, a2, a3, a4, a5, a6] h (fun v h' => LE g uL (pc + 3) lv (v.toList ++ st) h' Q)) : LE g uL pc lv (a6 :: a5 :: a4 :: a3 :: a2 :: a1 :: .ref 0 :: st) h Q := l_callV (As := [a1, a2, a3, a4, a5, a6]) (n := 6) (ci := 10) (k := 0) (q := (RX10, TX10, 14)) hd lk_L_42 tl_44 tl_45 rfl rfl (by decide) (by decide) rfl (by decide) hq hst hM
set_option maxRecDepth 100000 in
theorem lk_L_46 : mLk RL 46 yX11_together uX11_together 6 := ⟨tl_46, tl_47, tl_7, by decide +kernel, Nat.le_of_ble_eq_true rfl⟩
set_option maxRecDepth 100000 in
theorem cl_L_46 {g : gT} {pc : Nat} {lv st : List Value} {h : mh_T} {Q : Nat × Nat} {a1 a2 a3 a4 a5 a6 : Value} (hd : decode uL.2.1 pc = .ok (.invokevirtual 46, 3)) (hq : Q.1 ≤ 601024 ∧ Q.2 ≤ 7293034) (hst : (st.map fun v => v.category).sum ≤ 8) (hM : MC g yX11_together uX11_together [.ref 11, a1, a2, a3, a4, a5, a6] h (fun v h' => LE g uL (pc + 3) lv (v.toList ++ st) h' Q)) : LE g uL pc lv (a6 :: a5 :: a4 :: a3 :: a2 :: a1 :: .ref 11 :: st) h Q := l_callV (As := [a1, a2, a3, a4, a5, a6]) (n := 6) (ci := 11) (k := 11) (q := (RX11, TX11, 40)) hd lk_L_46 tl_48 tl_49 rfl rfl (by decide) (by decide) rfl (by decide) hq hst hM
set_option maxRecDepth 100000 in
theorem lk_L_47 : mLk RL 47 yX10_extend uX10_extend 2 := ⟨tl_50, tl_51, tl_2, by decide +kernel, Nat.le_of_ble_eq_true rfl⟩
set_option maxRecDepth 100000 in
theorem cl_L_47 {g : gT} {pc : Nat} {lv st : List Value} {h : mh_T} {Q : Nat × Nat} {a1 a2 : Value} (hd : decode uL.2.1 pc = .ok (.invokevirtual 47, 3)) (hq : Q.1 ≤ 601024 ∧ Q.2 ≤ 7293034) (hst : (st.map fun v => v.category).sum ≤ 8) (hM : MC g yX10_extend uX10_extend [.ref 0, a1, a2] h (fun v h' => LE g uL (pc + 3) lv (v.toList ++ st) h' Q)) : LE g uL pc lv (a2 :: a1 :: .ref 0 :: st) h Q := l_callV (As := [a1, a2]) (n := 2) (ci := 10) (k := 0) (q := (RX10, TX10, 14)) hd lk_L_47 tl_52 tl_53 rfl rfl (by decide) (by decide) rfl (by decide) hq hst hM
set_option maxRecDepth 100000 in
theorem lk_L_51 : mLk RL 51 yX11_extend uX11_extend 2 := ⟨tl_54, tl_55, tl_7, by decide +kernel, Nat.le_of_ble_eq_true rfl⟩
set_option maxRecDepth 100000 in
theorem cl_L_51 {g : gT} {pc : Nat} {lv st : List Value} {h : mh_T} {Q : Nat × Nat} {a1 a2 : Value} (hd : decode uL.2.1 pc = .ok (.invokevirtual 51, 3)) (hq : Q.1 ≤ 601024 ∧ Q.2 ≤ 7293034) (hst : (st.map fun v => v.category).sum ≤ 8) (hM : MC g yX11_extend uX11_extend [.ref 11, a1, a2] h (fun v h' => LE g uL (pc + 3) lv (v.toList ++ st) h' Q)) : LE g uL pc lv (a2 :: a1 :: .ref 11 :: st) h Q := l_callV (As := [a1, a2]) (n := 2) (ci := 11) (k := 11) (q := (RX11, TX11, 40)) hd lk_L_51 tl_56 tl_57 rfl rfl (by decide) (by decide) rfl (by decide) hq hst hM
set_option maxRecDepth 100000 in
theorem lk_L_52 : mLk RL 52 yX10_level uX10_level 0 := ⟨tl_58, tl_59, tl_2, by decide +kernel, Nat.le_of_ble_eq_true rfl⟩
set_option maxRecDepth 100000 in
theorem cl_L_52 {g : gT} {pc : Nat} {lv st : List Value} {h : mh_T} {Q : Nat × Nat} (hd : decode uL.2.1 pc = .ok (.invokevirtual 52, 3)) (hq : Q.1 ≤ 601024 ∧ Q.2 ≤ 7293034) (hst : (st.map fun v => v.category).sum ≤ 8) (hM : MC g yX10_level uX10_level [.ref 0] h (fun v h' => LE g uL (pc + 3) lv (v.toList ++ st) h' Q)) : LE g uL pc lv (.ref 0 :: st) h Q := l_callV (As := []) (n := 0) (ci := 10) (k := 0) (q := (RX10, TX10, 14)) hd lk_L_52 tl_60 tl_61 rfl rfl (by decide) (by decide) rfl (by decide) hq hst hM
set_option maxRecDepth 100000 in
theorem lk_L_55 : mLk RL 55 yX11_level uX11_level 0 := ⟨tl_62, tl_63, tl_7, by decide +kernel, Nat.le_of_ble_eq_true rfl⟩
set_option maxRecDepth 100000 in
theorem cl_L_55 {g : gT} {pc : Nat} {lv st : List Value} {h : mh_T} {Q : Nat × Nat} (hd : decode uL.2.1 pc = .ok (.invokevirtual 55, 3)) (hq : Q.1 ≤ 601024 ∧ Q.2 ≤ 7293034) (hst : (st.map fun v => v.category).sum ≤ 8) (hM : MC g yX11_level uX11_level [.ref 11] h (fun v h' => LE g uL (pc + 3) lv (v.toList ++ st) h' Q)) : LE g uL pc lv (.ref 11 :: st) h Q := l_callV (As := []) (n := 0) (ci := 11) (k := 11) (q := (RX11, TX11, 40)) hd lk_L_55 tl_64 tl_65 rfl rfl (by decide) (by decide) rfl (by decide) hq hst hM
set_option maxRecDepth 100000 in
theorem lk_L_56 : mLk RL 56 yX10_hidden uX10_hidden 0 := ⟨tl_66, tl_67, tl_2, by decide +kernel, Nat.le_of_ble_eq_true rfl⟩
set_option maxRecDepth 100000 in
theorem cl_L_56 {g : gT} {pc : Nat} {lv st : List Value} {h : mh_T} {Q : Nat × Nat} (hd : decode uL.2.1 pc = .ok (.invokevirtual 56, 3)) (hq : Q.1 ≤ 601024 ∧ Q.2 ≤ 7293034) (hst : (st.map fun v => v.category).sum ≤ 8) (hM : MC g yX10_hidden uX10_hidden [.ref 0] h (fun v h' => LE g uL (pc + 3) lv (v.toList ++ st) h' Q)) : LE g uL pc lv (.ref 0 :: st) h Q := l_callV (As := []) (n := 0) (ci := 10) (k := 0) (q := (RX10, TX10, 14)) hd lk_L_56 tl_68 tl_69 rfl rfl (by decide) (by decide) rfl (by decide) hq hst hM
set_option maxRecDepth 100000 in
theorem lk_L_59 : mLk RL 59 yX11_hidden uX11_hidden 0 := ⟨tl_70, tl_71, tl_7, by decide +kernel, Nat.le_of_ble_eq_true rfl⟩
set_option maxRecDepth 100000 in
theorem cl_L_59 {g : gT} {pc : Nat} {lv st : List Value} {h : mh_T} {Q : Nat × Nat} (hd : decode uL.2.1 pc = .ok (.invokevirtual 59, 3)) (hq : Q.1 ≤ 601024 ∧ Q.2 ≤ 7293034) (hst : (st.map fun v => v.category).sum ≤ 8) (hM : MC g yX11_hidden uX11_hidden [.ref 11] h (fun v h' => LE g uL (pc + 3) lv (v.toList ++ st) h' Q)) : LE g uL pc lv (.ref 11 :: st) h Q := l_callV (As := []) (n := 0) (ci := 11) (k := 11) (q := (RX11, TX11, 40)) hd lk_L_59 tl_72 tl_73 rfl rfl (by decide) (by decide) rfl (by decide) hq hst hM
set_option maxRecDepth 100000 in
theorem lk_L_60 : mLk RL 60 yX10_answer uX10_answer 1 := ⟨tl_74, tl_75, tl_2, by decide +kernel, Nat.le_of_ble_eq_true rfl⟩
set_option maxRecDepth 100000 in
theorem cl_L_60 {g : gT} {pc : Nat} {lv st : List Value} {h : mh_T} {Q : Nat × Nat} {a1 : Value} (hd : decode uL.2.1 pc = .ok (.invokevirtual 60, 3)) (hq : Q.1 ≤ 601024 ∧ Q.2 ≤ 7293034) (hst : (st.map fun v => v.category).sum ≤ 8) (hM : MC g yX10_answer uX10_answer [.ref 0, a1] h (fun v h' => LE g uL (pc + 3) lv (v.toList ++ st) h' Q)) : LE g uL pc lv (a1 :: .ref 0 :: st) h Q := l_callV (As := [a1]) (n := 1) (ci := 10) (k := 0) (q := (RX10, TX10, 14)) hd lk_L_60 tl_76 tl_77 rfl rfl (by decide) (by decide) rfl (by decide) hq hst hM
set_option maxRecDepth 100000 in
theorem lk_L_63 : mLk RL 63 yX11_answer uX11_answer 1 := ⟨tl_78, tl_79, tl_7, by decide +kernel, Nat.le_of_ble_eq_true rfl⟩
set_option maxRecDepth 100000 in
theorem cl_L_63 {g : gT} {pc : Nat} {lv st : List Value} {h : mh_T} {Q : Nat × Nat} {a1 : Value} (hd : decode uL.2.1 pc = .ok (.invokevirtual 63, 3)) (hq : Q.1 ≤ 601024 ∧ Q.2 ≤ 7293034) (hst : (st.map fun v => v.category).sum ≤ 8) (hM : MC g yX11_answer uX11_answer [.ref 11, a1] h (fun v h' => LE g uL (pc + 3) lv (v.toList ++ st) h' Q)) : LE g uL pc lv (a1 :: .ref 11 :: st) h Q := l_callV (As := [a1]) (n := 1) (ci := 11) (k := 11) (q := (RX11, TX11, 40)) hd lk_L_63 tl_80 tl_81 rfl rfl (by decide) (by decide) rfl (by decide) hq hst hM
set_option maxRecDepth 100000 in
theorem lk_L_64 : mLk RL 64 yX10_disturbed uX10_disturbed 0 := ⟨tl_82, tl_83, tl_2, by decide +kernel, Nat.le_of_ble_eq_true rfl⟩
set_option maxRecDepth 100000 in
theorem cl_L_64 {g : gT} {pc : Nat} {lv st : List Value} {h : mh_T} {Q : Nat × Nat} (hd : decode uL.2.1 pc = .ok (.invokevirtual 64, 3)) (hq : Q.1 ≤ 601024 ∧ Q.2 ≤ 7293034) (hst : (st.map fun v => v.category).sum ≤ 8) (hM : MC g yX10_disturbed uX10_disturbed [.ref 0] h (fun v h' => LE g uL (pc + 3) lv (v.toList ++ st) h' Q)) : LE g uL pc lv (.ref 0 :: st) h Q := l_callV (As := []) (n := 0) (ci := 10) (k := 0) (q := (RX10, TX10, 14)) hd lk_L_64 tl_84 tl_85 rfl rfl (by decide) (by decide) rfl (by decide) hq hst hM
set_option maxRecDepth 100000 in
theorem lk_L_67 : mLk RL 67 yX11_disturbed uX11_disturbed 0 := ⟨tl_86, tl_87, tl_7, by decide +kernel, Nat.le_of_ble_eq_true rfl⟩
set_option maxRecDepth 100000 in
theorem cl_L_67 {g : gT} {pc : Nat} {lv st : List Value} {h : mh_T} {Q : Nat × Nat} (hd : decode uL.2.1 pc = .ok (.invokevirtual 67, 3)) (hq : Q.1 ≤ 601024 ∧ Q.2 ≤ 7293034) (hst : (st.map fun v => v.category).sum ≤ 8) (hM : MC g yX11_disturbed uX11_disturbed [.ref 11] h (fun v h' => LE g uL (pc + 3) lv (v.toList ++ st) h' Q)) : LE g uL pc lv (.ref 11 :: st) h Q := l_callV (As := []) (n := 0) (ci := 11) (k := 11) (q := (RX11, TX11, 40)) hd lk_L_67 tl_88 tl_89 rfl rfl (by decide) (by decide) rfl (by decide) hq hst hM
set_option maxRecDepth 100000 in
theorem lk_L_68 : mLk RL 68 yX10_same uX10_same 1 := ⟨tl_90, tl_91, tl_2, by decide +kernel, Nat.le_of_ble_eq_true rfl⟩
set_option maxRecDepth 100000 in
theorem cl_L_68 {g : gT} {pc : Nat} {lv st : List Value} {h : mh_T} {Q : Nat × Nat} {a1 : Value} (hd : decode uL.2.1 pc = .ok (.invokevirtual 68, 3)) (hq : Q.1 ≤ 601024 ∧ Q.2 ≤ 7293034) (hst : (st.map fun v => v.category).sum ≤ 8) (hM : MC g yX10_same uX10_same [.ref 0, a1] h (fun v h' => LE g uL (pc + 3) lv (v.toList ++ st) h' Q)) : LE g uL pc lv (a1 :: .ref 0 :: st) h Q := l_callV (As := [a1]) (n := 1) (ci := 10) (k := 0) (q := (RX10, TX10, 14)) hd lk_L_68 tl_92 tl_93 rfl rfl (by decide) (by decide) rfl (by decide) hq hst hM
set_option maxRecDepth 100000 in
theorem lk_L_71 : mLk RL 71 yX11_same uX11_same 1 := ⟨tl_94, tl_95, tl_7, by decide +kernel, Nat.le_of_ble_eq_true rfl⟩
set_option maxRecDepth 100000 in
theorem cl_L_71 {g : gT} {pc : Nat} {lv st : List Value} {h : mh_T} {Q : Nat × Nat} {a1 : Value} (hd : decode uL.2.1 pc = .ok (.invokevirtual 71, 3)) (hq : Q.1 ≤ 601024 ∧ Q.2 ≤ 7293034) (hst : (st.map fun v => v.category).sum ≤ 8) (hM : MC g yX11_same uX11_same [.ref 11, a1] h (fun v h' => LE g uL (pc + 3) lv (v.toList ++ st) h' Q)) : LE g uL pc lv (a1 :: .ref 11 :: st) h Q := l_callV (As := [a1]) (n := 1) (ci := 11) (k := 11) (q := (RX11, TX11, 40)) hd lk_L_71 tl_96 tl_97 rfl rfl (by decide) (by decide) rfl (by decide) hq hst hM
set_option maxRecDepth 100000 in
theorem lk_L_72 : mLk RL 72 yX10_cycles uX10_cycles 0 := ⟨tl_98, tl_99, tl_2, by decide +kernel, Nat.le_of_ble_eq_true rfl⟩
set_option maxRecDepth 100000 in
theorem cl_L_72 {g : gT} {pc : Nat} {lv st : List Value} {h : mh_T} {Q : Nat × Nat} (hd : decode uL.2.1 pc = .ok (.invokevirtual 72, 3)) (hq : Q.1 ≤ 601024 ∧ Q.2 ≤ 7293034) (hst : (st.map fun v => v.category).sum ≤ 8) (hM : MC g yX10_cycles uX10_cycles [.ref 0] h (fun v h' => LE g uL (pc + 3) lv (v.toList ++ st) h' Q)) : LE g uL pc lv (.ref 0 :: st) h Q := l_callV (As := []) (n := 0) (ci := 10) (k := 0) (q := (RX10, TX10, 14)) hd lk_L_72 tl_100 tl_101 rfl rfl (by decide) (by decide) rfl (by decide) hq hst hM
set_option maxRecDepth 100000 in
theorem lk_L_75 : mLk RL 75 yX11_cycles uX11_cycles 0 := ⟨tl_102, tl_103, tl_7, by decide +kernel, Nat.le_of_ble_eq_true rfl⟩
set_option maxRecDepth 100000 in
theorem cl_L_75 {g : gT} {pc : Nat} {lv st : List Value} {h : mh_T} {Q : Nat × Nat} (hd : decode uL.2.1 pc = .ok (.invokevirtual 75, 3)) (hq : Q.1 ≤ 601024 ∧ Q.2 ≤ 7293034) (hst : (st.map fun v => v.category).sum ≤ 8) (hM : MC g yX11_cycles uX11_cycles [.ref 11] h (fun v h' => LE g uL (pc + 3) lv (v.toList ++ st) h' Q)) : LE g uL pc lv (.ref 11 :: st) h Q := l_callV (As := []) (n := 0) (ci := 11) (k := 11) (q := (RX11, TX11, 40)) hd lk_L_75 tl_104 tl_105 rfl rfl (by decide) (by decide) rfl (by decide) hq hst hM
set_option maxRecDepth 100000 in
theorem lk_L_76 : mLk RL 76 yX10_cycle uX10_cycle 1 := ⟨tl_106, tl_107, tl_2, by decide +kernel, Nat.le_of_ble_eq_true rfl⟩
set_option maxRecDepth 100000 in
theorem cl_L_76 {g : gT} {pc : Nat} {lv st : List Value} {h : mh_T} {Q : Nat × Nat} {a1 : Value} (hd : decode uL.2.1 pc = .ok (.invokevirtual 76, 3)) (hq : Q.1 ≤ 601024 ∧ Q.2 ≤ 7293034) (hst : (st.map fun v => v.category).sum ≤ 8) (hM : MC g yX10_cycle uX10_cycle [.ref 0, a1] h (fun v h' => LE g uL (pc + 3) lv (v.toList ++ st) h' Q)) : LE g uL pc lv (a1 :: .ref 0 :: st) h Q := l_callV (As := [a1]) (n := 1) (ci := 10) (k := 0) (q := (RX10, TX10, 14)) hd lk_L_76 tl_108 tl_109 rfl rfl (by decide) (by decide) rfl (by decide) hq hst hM
set_option maxRecDepth 100000 in
theorem lk_L_79 : mLk RL 79 yX11_cycle uX11_cycle 1 := ⟨tl_110, tl_111, tl_7, by decide +kernel, Nat.le_of_ble_eq_true rfl⟩
set_option maxRecDepth 100000 in
theorem cl_L_79 {g : gT} {pc : Nat} {lv st : List Value} {h : mh_T} {Q : Nat × Nat} {a1 : Value} (hd : decode uL.2.1 pc = .ok (.invokevirtual 79, 3)) (hq : Q.1 ≤ 601024 ∧ Q.2 ≤ 7293034) (hst : (st.map fun v => v.category).sum ≤ 8) (hM : MC g yX11_cycle uX11_cycle [.ref 11, a1] h (fun v h' => LE g uL (pc + 3) lv (v.toList ++ st) h' Q)) : LE g uL pc lv (a1 :: .ref 11 :: st) h Q := l_callV (As := [a1]) (n := 1) (ci := 11) (k := 11) (q := (RX11, TX11, 40)) hd lk_L_79 tl_112 tl_113 rfl rfl (by decide) (by decide) rfl (by decide) hq hst hM
set_option maxRecDepth 100000 in
theorem lk_L_80 : mLk RL 80 yX10_excess uX10_excess 1 := ⟨tl_114, tl_115, tl_2, by decide +kernel, Nat.le_of_ble_eq_true rfl⟩
set_option maxRecDepth 100000 in
theorem cl_L_80 {g : gT} {pc : Nat} {lv st : List Value} {h : mh_T} {Q : Nat × Nat} {a1 : Value} (hd : decode uL.2.1 pc = .ok (.invokevirtual 80, 3)) (hq : Q.1 ≤ 601024 ∧ Q.2 ≤ 7293034) (hst : (st.map fun v => v.category).sum ≤ 8) (hM : MC g yX10_excess uX10_excess [.ref 0, a1] h (fun v h' => LE g uL (pc + 3) lv (v.toList ++ st) h' Q)) : LE g uL pc lv (a1 :: .ref 0 :: st) h Q := l_callV (As := [a1]) (n := 1) (ci := 10) (k := 0) (q := (RX10, TX10, 14)) hd lk_L_80 tl_116 tl_117 rfl rfl (by decide) (by decide) rfl (by decide) hq hst hM
set_option maxRecDepth 100000 in
theorem lk_L_83 : mLk RL 83 yX11_excess uX11_excess 1 := ⟨tl_118, tl_119, tl_7, by decide +kernel, Nat.le_of_ble_eq_true rfl⟩
set_option maxRecDepth 100000 in
theorem cl_L_83 {g : gT} {pc : Nat} {lv st : List Value} {h : mh_T} {Q : Nat × Nat} {a1 : Value} (hd : decode uL.2.1 pc = .ok (.invokevirtual 83, 3)) (hq : Q.1 ≤ 601024 ∧ Q.2 ≤ 7293034) (hst : (st.map fun v => v.category).sum ≤ 8) (hM : MC g yX11_excess uX11_excess [.ref 11, a1] h (fun v h' => LE g uL (pc + 3) lv (v.toList ++ st) h' Q)) : LE g uL pc lv (a1 :: .ref 11 :: st) h Q := l_callV (As := [a1]) (n := 1) (ci := 11) (k := 11) (q := (RX11, TX11, 40)) hd lk_L_83 tl_120 tl_121 rfl rfl (by decide) (by decide) rfl (by decide) hq hst hM
set_option maxRecDepth 100000 in
theorem lk_L_84 : mLk RL 84 yX10_widest uX10_widest 0 := ⟨tl_122, tl_123, tl_2, by decide +kernel, Nat.le_of_ble_eq_true rfl⟩
set_option maxRecDepth 100000 in
theorem cl_L_84 {g : gT} {pc : Nat} {lv st : List Value} {h : mh_T} {Q : Nat × Nat} (hd : decode uL.2.1 pc = .ok (.invokevirtual 84, 3)) (hq : Q.1 ≤ 601024 ∧ Q.2 ≤ 7293034) (hst : (st.map fun v => v.category).sum ≤ 8) (hM : MC g yX10_widest uX10_widest [.ref 0] h (fun v h' => LE g uL (pc + 3) lv (v.toList ++ st) h' Q)) : LE g uL pc lv (.ref 0 :: st) h Q := l_callV (As := []) (n := 0) (ci := 10) (k := 0) (q := (RX10, TX10, 14)) hd lk_L_84 tl_124 tl_125 rfl rfl (by decide) (by decide) rfl (by decide) hq hst hM
set_option maxRecDepth 100000 in
theorem lk_L_87 : mLk RL 87 yX11_widest uX11_widest 0 := ⟨tl_126, tl_127, tl_7, by decide +kernel, Nat.le_of_ble_eq_true rfl⟩
set_option maxRecDepth 100000 in
theorem cl_L_87 {g : gT} {pc : Nat} {lv st : List Value} {h : mh_T} {Q : Nat × Nat} (hd : decode uL.2.1 pc = .ok (.invokevirtual 87, 3)) (hq : Q.1 ≤ 601024 ∧ Q.2 ≤ 7293034) (hst : (st.map fun v => v.category).sum ≤ 8) (hM : MC g yX11_widest uX11_widest [.ref 11] h (fun v h' => LE g uL (pc + 3) lv (v.toList ++ st) h' Q)) : LE g uL pc lv (.ref 11 :: st) h Q := l_callV (As := []) (n := 0) (ci := 11) (k := 11) (q := (RX11, TX11, 40)) hd lk_L_87 tl_128 tl_129 rfl rfl (by decide) (by decide) rfl (by decide) hq hst hM
set_option maxRecDepth 100000 in
theorem lk_L_88 : mLk RL 88 yX10_stake uX10_stake 3 := ⟨tl_130, tl_131, tl_2, by decide +kernel, Nat.le_of_ble_eq_true rfl⟩
set_option maxRecDepth 100000 in
theorem cl_L_88 {g : gT} {pc : Nat} {lv st : List Value} {h : mh_T} {Q : Nat × Nat} {a1 a2 a3 : Value} (hd : decode uL.2.1 pc = .ok (.invokevirtual 88, 3)) (hq : Q.1 ≤ 601024 ∧ Q.2 ≤ 7293034) (hst : (st.map fun v => v.category).sum ≤ 8) (hM : MC g yX10_stake uX10_stake [.ref 0, a1, a2, a3] h (fun v h' => LE g uL (pc + 3) lv (v.toList ++ st) h' Q)) : LE g uL pc lv (a3 :: a2 :: a1 :: .ref 0 :: st) h Q := l_callV (As := [a1, a2, a3]) (n := 3) (ci := 10) (k := 0) (q := (RX10, TX10, 14)) hd lk_L_88 tl_132 tl_133 rfl rfl (by decide) (by decide) rfl (by decide) hq hst hM
set_option maxRecDepth 100000 in
theorem lk_L_92 : mLk RL 92 yX11_stake uX11_stake 3 := ⟨tl_134, tl_135, tl_7, by decide +kernel, Nat.le_of_ble_eq_true rfl⟩
set_option maxRecDepth 100000 in
theorem cl_L_92 {g : gT} {pc : Nat} {lv st : List Value} {h : mh_T} {Q : Nat × Nat} {a1 a2 a3 : Value} (hd : decode uL.2.1 pc = .ok (.invokevirtual 92, 3)) (hq : Q.1 ≤ 601024 ∧ Q.2 ≤ 7293034) (hst : (st.map fun v => v.category).sum ≤ 8) (hM : MC g yX11_stake uX11_stake [.ref 11, a1, a2, a3] h (fun v h' => LE g uL (pc + 3) lv (v.toList ++ st) h' Q)) : LE g uL pc lv (a3 :: a2 :: a1 :: .ref 11 :: st) h Q := l_callV (As := [a1, a2, a3]) (n := 3) (ci := 11) (k := 11) (q := (RX11, TX11, 40)) hd lk_L_92 tl_136 tl_137 rfl rfl (by decide) (by decide) rfl (by decide) hq hst hM
set_option maxRecDepth 100000 in
theorem lk_L_93 : mLk RL 93 yX10_wins uX10_wins 0 := ⟨tl_138, tl_139, tl_2, by decide +kernel, Nat.le_of_ble_eq_true rfl⟩
set_option maxRecDepth 100000 in
theorem cl_L_93 {g : gT} {pc : Nat} {lv st : List Value} {h : mh_T} {Q : Nat × Nat} (hd : decode uL.2.1 pc = .ok (.invokevirtual 93, 3)) (hq : Q.1 ≤ 601024 ∧ Q.2 ≤ 7293034) (hst : (st.map fun v => v.category).sum ≤ 8) (hM : MC g yX10_wins uX10_wins [.ref 0] h (fun v h' => LE g uL (pc + 3) lv (v.toList ++ st) h' Q)) : LE g uL pc lv (.ref 0 :: st) h Q := l_callV (As := []) (n := 0) (ci := 10) (k := 0) (q := (RX10, TX10, 14)) hd lk_L_93 tl_140 tl_141 rfl rfl (by decide) (by decide) rfl (by decide) hq hst hM
set_option maxRecDepth 100000 in
theorem lk_L_96 : mLk RL 96 yX11_wins uX11_wins 0 := ⟨tl_142, tl_143, tl_7, by decide +kernel, Nat.le_of_ble_eq_true rfl⟩
set_option maxRecDepth 100000 in
theorem cl_L_96 {g : gT} {pc : Nat} {lv st : List Value} {h : mh_T} {Q : Nat × Nat} (hd : decode uL.2.1 pc = .ok (.invokevirtual 96, 3)) (hq : Q.1 ≤ 601024 ∧ Q.2 ≤ 7293034) (hst : (st.map fun v => v.category).sum ≤ 8) (hM : MC g yX11_wins uX11_wins [.ref 11] h (fun v h' => LE g uL (pc + 3) lv (v.toList ++ st) h' Q)) : LE g uL pc lv (.ref 11 :: st) h Q := l_callV (As := []) (n := 0) (ci := 11) (k := 11) (q := (RX11, TX11, 40)) hd lk_L_96 tl_144 tl_145 rfl rfl (by decide) (by decide) rfl (by decide) hq hst hM
set_option maxRecDepth 100000 in
theorem lk_L_97 : mLk RL 97 yX10_worst uX10_worst 0 := ⟨tl_146, tl_147, tl_2, by decide +kernel, Nat.le_of_ble_eq_true rfl⟩
set_option maxRecDepth 100000 in
theorem cl_L_97 {g : gT} {pc : Nat} {lv st : List Value} {h : mh_T} {Q : Nat × Nat} (hd : decode uL.2.1 pc = .ok (.invokevirtual 97, 3)) (hq : Q.1 ≤ 601024 ∧ Q.2 ≤ 7293034) (hst : (st.map fun v => v.category).sum ≤ 8) (hM : MC g yX10_worst uX10_worst [.ref 0] h (fun v h' => LE g uL (pc + 3) lv (v.toList ++ st) h' Q)) : LE g uL pc lv (.ref 0 :: st) h Q := l_callV (As := []) (n := 0) (ci := 10) (k := 0) (q := (RX10, TX10, 14)) hd lk_L_97 tl_148 tl_149 rfl rfl (by decide) (by decide) rfl (by decide) hq hst hM
set_option maxRecDepth 100000 in
theorem lk_L_100 : mLk RL 100 yX11_worst uX11_worst 0 := ⟨tl_150, tl_151, tl_7, by decide +kernel, Nat.le_of_ble_eq_true rfl⟩
set_option maxRecDepth 100000 in
theorem cl_L_100 {g : gT} {pc : Nat} {lv st : List Value} {h : mh_T} {Q : Nat × Nat} (hd : decode uL.2.1 pc = .ok (.invokevirtual 100, 3)) (hq : Q.1 ≤ 601024 ∧ Q.2 ≤ 7293034) (hst : (st.map fun v => v.category).sum ≤ 8) (hM : MC g yX11_worst uX11_worst [.ref 11] h (fun v h' => LE g uL (pc + 3) lv (v.toList ++ st) h' Q)) : LE g uL pc lv (.ref 11 :: st) h Q := l_callV (As := []) (n := 0) (ci := 11) (k := 11) (q := (RX11, TX11, 40)) hd lk_L_100 tl_152 tl_153 rfl rfl (by decide) (by decide) rfl (by decide) hq hst hM
set_option maxRecDepth 100000 in
theorem lk_L_101 : mLk RL 101 yX10_worstAt uX10_worstAt 0 := ⟨tl_154, tl_155, tl_2, by decide +kernel, Nat.le_of_ble_eq_true rfl⟩
set_option maxRecDepth 100000 in
theorem cl_L_101 {g : gT} {pc : Nat} {lv st : List Value} {h : mh_T} {Q : Nat × Nat} (hd : decode uL.2.1 pc = .ok (.invokevirtual 101, 3)) (hq : Q.1 ≤ 601024 ∧ Q.2 ≤ 7293034) (hst : (st.map fun v => v.category).sum ≤ 8) (hM : MC g yX10_worstAt uX10_worstAt [.ref 0] h (fun v h' => LE g uL (pc + 3) lv (v.toList ++ st) h' Q)) : LE g uL pc lv (.ref 0 :: st) h Q := l_callV (As := []) (n := 0) (ci := 10) (k := 0) (q := (RX10, TX10, 14)) hd lk_L_101 tl_156 tl_157 rfl rfl (by decide) (by decide) rfl (by decide) hq hst hM
set_option maxRecDepth 100000 in
theorem lk_L_104 : mLk RL 104 yX11_worstAt uX11_worstAt 0 := ⟨tl_158, tl_159, tl_7, by decide +kernel, Nat.le_of_ble_eq_true rfl⟩
set_option maxRecDepth 100000 in
theorem cl_L_104 {g : gT} {pc : Nat} {lv st : List Value} {h : mh_T} {Q : Nat × Nat} (hd : decode uL.2.1 pc = .ok (.invokevirtual 104, 3)) (hq : Q.1 ≤ 601024 ∧ Q.2 ≤ 7293034) (hst : (st.map fun v => v.category).sum ≤ 8) (hM : MC g yX11_worstAt uX11_worstAt [.ref 11] h (fun v h' => LE g uL (pc + 3) lv (v.toList ++ st) h' Q)) : LE g uL pc lv (.ref 11 :: st) h Q := l_callV (As := []) (n := 0) (ci := 11) (k := 11) (q := (RX11, TX11, 40)) hd lk_L_104 tl_160 tl_161 rfl rfl (by decide) (by decide) rfl (by decide) hq hst hM
set_option maxRecDepth 100000 in
theorem lk_L_105 : mLk RL 105 yX10_bars uX10_bars 0 := ⟨tl_162, tl_163, tl_2, by decide +kernel, Nat.le_of_ble_eq_true rfl⟩
set_option maxRecDepth 100000 in
theorem cl_L_105 {g : gT} {pc : Nat} {lv st : List Value} {h : mh_T} {Q : Nat × Nat} (hd : decode uL.2.1 pc = .ok (.invokevirtual 105, 3)) (hq : Q.1 ≤ 601024 ∧ Q.2 ≤ 7293034) (hst : (st.map fun v => v.category).sum ≤ 8) (hM : MC g yX10_bars uX10_bars [.ref 0] h (fun v h' => LE g uL (pc + 3) lv (v.toList ++ st) h' Q)) : LE g uL pc lv (.ref 0 :: st) h Q := l_callV (As := []) (n := 0) (ci := 10) (k := 0) (q := (RX10, TX10, 14)) hd lk_L_105 tl_164 tl_165 rfl rfl (by decide) (by decide) rfl (by decide) hq hst hM
set_option maxRecDepth 100000 in
theorem lk_L_108 : mLk RL 108 yX11_bars uX11_bars 0 := ⟨tl_166, tl_167, tl_7, by decide +kernel, Nat.le_of_ble_eq_true rfl⟩
set_option maxRecDepth 100000 in
theorem cl_L_108 {g : gT} {pc : Nat} {lv st : List Value} {h : mh_T} {Q : Nat × Nat} (hd : decode uL.2.1 pc = .ok (.invokevirtual 108, 3)) (hq : Q.1 ≤ 601024 ∧ Q.2 ≤ 7293034) (hst : (st.map fun v => v.category).sum ≤ 8) (hM : MC g yX11_bars uX11_bars [.ref 11] h (fun v h' => LE g uL (pc + 3) lv (v.toList ++ st) h' Q)) : LE g uL pc lv (.ref 11 :: st) h Q := l_callV (As := []) (n := 0) (ci := 11) (k := 11) (q := (RX11, TX11, 40)) hd lk_L_108 tl_168 tl_169 rfl rfl (by decide) (by decide) rfl (by decide) hq hst hM
set_option maxRecDepth 100000 in
theorem lk_L_109 : mLk RL 109 yX10_fair uX10_fair 1 := ⟨tl_170, tl_171, tl_2, by decide +kernel, Nat.le_of_ble_eq_true rfl⟩
set_option maxRecDepth 100000 in
theorem cl_L_109 {g : gT} {pc : Nat} {lv st : List Value} {h : mh_T} {Q : Nat × Nat} {a1 : Value} (hd : decode uL.2.1 pc = .ok (.invokevirtual 109, 3)) (hq : Q.1 ≤ 601024 ∧ Q.2 ≤ 7293034) (hst : (st.map fun v => v.category).sum ≤ 8) (hM : MC g yX10_fair uX10_fair [.ref 0, a1] h (fun v h' => LE g uL (pc + 3) lv (v.toList ++ st) h' Q)) : LE g uL pc lv (a1 :: .ref 0 :: st) h Q := l_callV (As := [a1]) (n := 1) (ci := 10) (k := 0) (q := (RX10, TX10, 14)) hd lk_L_109 tl_172 tl_173 rfl rfl (by decide) (by decide) rfl (by decide) hq hst hM
set_option maxRecDepth 100000 in
theorem lk_L_112 : mLk RL 112 yX11_fair uX11_fair 1 := ⟨tl_174, tl_175, tl_7, by decide +kernel, Nat.le_of_ble_eq_true rfl⟩
set_option maxRecDepth 100000 in
theorem cl_L_112 {g : gT} {pc : Nat} {lv st : List Value} {h : mh_T} {Q : Nat × Nat} {a1 : Value} (hd : decode uL.2.1 pc = .ok (.invokevirtual 112, 3)) (hq : Q.1 ≤ 601024 ∧ Q.2 ≤ 7293034) (hst : (st.map fun v => v.category).sum ≤ 8) (hM : MC g yX11_fair uX11_fair [.ref 11, a1] h (fun v h' => LE g uL (pc + 3) lv (v.toList ++ st) h' Q)) : LE g uL pc lv (a1 :: .ref 11 :: st) h Q := l_callV (As := [a1]) (n := 1) (ci := 11) (k := 11) (q := (RX11, TX11, 40)) hd lk_L_112 tl_176 tl_177 rfl rfl (by decide) (by decide) rfl (by decide) hq hst hM
set_option maxRecDepth 100000 in
theorem lk_L_113 : mLk RL 113 yX10_ways uX10_ways 0 := ⟨tl_178, tl_179, tl_2, by decide +kernel, Nat.le_of_ble_eq_true rfl⟩
set_option maxRecDepth 100000 in
theorem cl_L_113 {g : gT} {pc : Nat} {lv st : List Value} {h : mh_T} {Q : Nat × Nat} (hd : decode uL.2.1 pc = .ok (.invokevirtual 113, 3)) (hq : Q.1 ≤ 601024 ∧ Q.2 ≤ 7293034) (hst : (st.map fun v => v.category).sum ≤ 8) (hM : MC g yX10_ways uX10_ways [.ref 0] h (fun v h' => LE g uL (pc + 3) lv (v.toList ++ st) h' Q)) : LE g uL pc lv (.ref 0 :: st) h Q := l_callV (As := []) (n := 0) (ci := 10) (k := 0) (q := (RX10, TX10, 14)) hd lk_L_113 tl_180 tl_181 rfl rfl (by decide) (by decide) rfl (by decide) hq hst hM
set_option maxRecDepth 100000 in
theorem lk_L_116 : mLk RL 116 yX11_ways uX11_ways 0 := ⟨tl_182, tl_183, tl_7, by decide +kernel, Nat.le_of_ble_eq_true rfl⟩
set_option maxRecDepth 100000 in
theorem cl_L_116 {g : gT} {pc : Nat} {lv st : List Value} {h : mh_T} {Q : Nat × Nat} (hd : decode uL.2.1 pc = .ok (.invokevirtual 116, 3)) (hq : Q.1 ≤ 601024 ∧ Q.2 ≤ 7293034) (hst : (st.map fun v => v.category).sum ≤ 8) (hM : MC g yX11_ways uX11_ways [.ref 11] h (fun v h' => LE g uL (pc + 3) lv (v.toList ++ st) h' Q)) : LE g uL pc lv (.ref 11 :: st) h Q := l_callV (As := []) (n := 0) (ci := 11) (k := 11) (q := (RX11, TX11, 40)) hd lk_L_116 tl_184 tl_185 rfl rfl (by decide) (by decide) rfl (by decide) hq hst hM
set_option maxRecDepth 100000 in
theorem lk_L_117 : mLk RL 117 yX10_forced uX10_forced 1 := ⟨tl_186, tl_187, tl_2, by decide +kernel, Nat.le_of_ble_eq_true rfl⟩
set_option maxRecDepth 100000 in
theorem cl_L_117 {g : gT} {pc : Nat} {lv st : List Value} {h : mh_T} {Q : Nat × Nat} {a1 : Value} (hd : decode uL.2.1 pc = .ok (.invokevirtual 117, 3)) (hq : Q.1 ≤ 601024 ∧ Q.2 ≤ 7293034) (hst : (st.map fun v => v.category).sum ≤ 8) (hM : MC g yX10_forced uX10_forced [.ref 0, a1] h (fun v h' => LE g uL (pc + 3) lv (v.toList ++ st) h' Q)) : LE g uL pc lv (a1 :: .ref 0 :: st) h Q := l_callV (As := [a1]) (n := 1) (ci := 10) (k := 0) (q := (RX10, TX10, 14)) hd lk_L_117 tl_188 tl_189 rfl rfl (by decide) (by decide) rfl (by decide) hq hst hM
set_option maxRecDepth 100000 in
theorem lk_L_120 : mLk RL 120 yX11_forced uX11_forced 1 := ⟨tl_190, tl_191, tl_7, by decide +kernel, Nat.le_of_ble_eq_true rfl⟩
set_option maxRecDepth 100000 in
theorem cl_L_120 {g : gT} {pc : Nat} {lv st : List Value} {h : mh_T} {Q : Nat × Nat} {a1 : Value} (hd : decode uL.2.1 pc = .ok (.invokevirtual 120, 3)) (hq : Q.1 ≤ 601024 ∧ Q.2 ≤ 7293034) (hst : (st.map fun v => v.category).sum ≤ 8) (hM : MC g yX11_forced uX11_forced [.ref 11, a1] h (fun v h' => LE g uL (pc + 3) lv (v.toList ++ st) h' Q)) : LE g uL pc lv (a1 :: .ref 11 :: st) h Q := l_callV (As := [a1]) (n := 1) (ci := 11) (k := 11) (q := (RX11, TX11, 40)) hd lk_L_120 tl_192 tl_193 rfl rfl (by decide) (by decide) rfl (by decide) hq hst hM
set_option maxRecDepth 100000 in
theorem lk_L_121 : mLk RL 121 yX10_core uX10_core 0 := ⟨tl_194, tl_195, tl_2, by decide +kernel, Nat.le_of_ble_eq_true rfl⟩
set_option maxRecDepth 100000 in
theorem cl_L_121 {g : gT} {pc : Nat} {lv st : List Value} {h : mh_T} {Q : Nat × Nat} (hd : decode uL.2.1 pc = .ok (.invokevirtual 121, 3)) (hq : Q.1 ≤ 601024 ∧ Q.2 ≤ 7293034) (hst : (st.map fun v => v.category).sum ≤ 8) (hM : MC g yX10_core uX10_core [.ref 0] h (fun v h' => LE g uL (pc + 3) lv (v.toList ++ st) h' Q)) : LE g uL pc lv (.ref 0 :: st) h Q := l_callV (As := []) (n := 0) (ci := 10) (k := 0) (q := (RX10, TX10, 14)) hd lk_L_121 tl_196 tl_197 rfl rfl (by decide) (by decide) rfl (by decide) hq hst hM
set_option maxRecDepth 100000 in
theorem lk_L_124 : mLk RL 124 yX11_core uX11_core 0 := ⟨tl_198, tl_199, tl_7, by decide +kernel, Nat.le_of_ble_eq_true rfl⟩
set_option maxRecDepth 100000 in
theorem cl_L_124 {g : gT} {pc : Nat} {lv st : List Value} {h : mh_T} {Q : Nat × Nat} (hd : decode uL.2.1 pc = .ok (.invokevirtual 124, 3)) (hq : Q.1 ≤ 601024 ∧ Q.2 ≤ 7293034) (hst : (st.map fun v => v.category).sum ≤ 8) (hM : MC g yX11_core uX11_core [.ref 11] h (fun v h' => LE g uL (pc + 3) lv (v.toList ++ st) h' Q)) : LE g uL pc lv (.ref 11 :: st) h Q := l_callV (As := []) (n := 0) (ci := 11) (k := 11) (q := (RX11, TX11, 40)) hd lk_L_124 tl_200 tl_201 rfl rfl (by decide) (by decide) rfl (by decide) hq hst hM
set_option maxRecDepth 100000 in
theorem lk_L_125 : mLk RL 125 yX10_can uX10_can 1 := ⟨tl_202, tl_203, tl_2, by decide +kernel, Nat.le_of_ble_eq_true rfl⟩
set_option maxRecDepth 100000 in
theorem cl_L_125 {g : gT} {pc : Nat} {lv st : List Value} {h : mh_T} {Q : Nat × Nat} {a1 : Value} (hd : decode uL.2.1 pc = .ok (.invokevirtual 125, 3)) (hq : Q.1 ≤ 601024 ∧ Q.2 ≤ 7293034) (hst : (st.map fun v => v.category).sum ≤ 8) (hM : MC g yX10_can uX10_can [.ref 0, a1] h (fun v h' => LE g uL (pc + 3) lv (v.toList ++ st) h' Q)) : LE g uL pc lv (a1 :: .ref 0 :: st) h Q := l_callV (As := [a1]) (n := 1) (ci := 10) (k := 0) (q := (RX10, TX10, 14)) hd lk_L_125 tl_204 tl_205 rfl rfl (by decide) (by decide) rfl (by decide) hq hst hM
set_option maxRecDepth 100000 in
theorem lk_L_128 : mLk RL 128 yX11_can uX11_can 1 := ⟨tl_206, tl_207, tl_7, by decide +kernel, Nat.le_of_ble_eq_true rfl⟩
set_option maxRecDepth 100000 in
theorem cl_L_128 {g : gT} {pc : Nat} {lv st : List Value} {h : mh_T} {Q : Nat × Nat} {a1 : Value} (hd : decode uL.2.1 pc = .ok (.invokevirtual 128, 3)) (hq : Q.1 ≤ 601024 ∧ Q.2 ≤ 7293034) (hst : (st.map fun v => v.category).sum ≤ 8) (hM : MC g yX11_can uX11_can [.ref 11, a1] h (fun v h' => LE g uL (pc + 3) lv (v.toList ++ st) h' Q)) : LE g uL pc lv (a1 :: .ref 11 :: st) h Q := l_callV (As := [a1]) (n := 1) (ci := 11) (k := 11) (q := (RX11, TX11, 40)) hd lk_L_128 tl_208 tl_209 rfl rfl (by decide) (by decide) rfl (by decide) hq hst hM
set_option maxRecDepth 100000 in
theorem lk_L_129 : mLk RL 129 yX10_game uX10_game 0 := ⟨tl_210, tl_211, tl_2, by decide +kernel, Nat.le_of_ble_eq_true rfl⟩
set_option maxRecDepth 100000 in
theorem cl_L_129 {g : gT} {pc : Nat} {lv st : List Value} {h : mh_T} {Q : Nat × Nat} (hd : decode uL.2.1 pc = .ok (.invokevirtual 129, 3)) (hq : Q.1 ≤ 601024 ∧ Q.2 ≤ 7293034) (hst : (st.map fun v => v.category).sum ≤ 8) (hM : MC g yX10_game uX10_game [.ref 0] h (fun v h' => LE g uL (pc + 3) lv (v.toList ++ st) h' Q)) : LE g uL pc lv (.ref 0 :: st) h Q := l_callV (As := []) (n := 0) (ci := 10) (k := 0) (q := (RX10, TX10, 14)) hd lk_L_129 tl_212 tl_213 rfl rfl (by decide) (by decide) rfl (by decide) hq hst hM
set_option maxRecDepth 100000 in
theorem lk_L_132 : mLk RL 132 yX11_game uX11_game 0 := ⟨tl_214, tl_215, tl_7, by decide +kernel, Nat.le_of_ble_eq_true rfl⟩
set_option maxRecDepth 100000 in
theorem cl_L_132 {g : gT} {pc : Nat} {lv st : List Value} {h : mh_T} {Q : Nat × Nat} (hd : decode uL.2.1 pc = .ok (.invokevirtual 132, 3)) (hq : Q.1 ≤ 601024 ∧ Q.2 ≤ 7293034) (hst : (st.map fun v => v.category).sum ≤ 8) (hM : MC g yX11_game uX11_game [.ref 11] h (fun v h' => LE g uL (pc + 3) lv (v.toList ++ st) h' Q)) : LE g uL pc lv (.ref 11 :: st) h Q := l_callV (As := []) (n := 0) (ci := 11) (k := 11) (q := (RX11, TX11, 40)) hd lk_L_132 tl_216 tl_217 rfl rfl (by decide) (by decide) rfl (by decide) hq hst hM
set_option maxRecDepth 100000 in
theorem lk_L_133 : mLk RL 133 yX10_square uX10_square 2 := ⟨tl_218, tl_219, tl_2, by decide +kernel, Nat.le_of_ble_eq_true rfl⟩
set_option maxRecDepth 100000 in
theorem cl_L_133 {g : gT} {pc : Nat} {lv st : List Value} {h : mh_T} {Q : Nat × Nat} {a1 a2 : Value} (hd : decode uL.2.1 pc = .ok (.invokevirtual 133, 3)) (hq : Q.1 ≤ 601024 ∧ Q.2 ≤ 7293034) (hst : (st.map fun v => v.category).sum ≤ 8) (hM : MC g yX10_square uX10_square [.ref 0, a1, a2] h (fun v h' => LE g uL (pc + 3) lv (v.toList ++ st) h' Q)) : LE g uL pc lv (a2 :: a1 :: .ref 0 :: st) h Q := l_callV (As := [a1, a2]) (n := 2) (ci := 10) (k := 0) (q := (RX10, TX10, 14)) hd lk_L_133 tl_220 tl_221 rfl rfl (by decide) (by decide) rfl (by decide) hq hst hM
set_option maxRecDepth 100000 in
theorem lk_L_136 : mLk RL 136 yX11_square uX11_square 2 := ⟨tl_222, tl_223, tl_7, by decide +kernel, Nat.le_of_ble_eq_true rfl⟩
set_option maxRecDepth 100000 in
theorem cl_L_136 {g : gT} {pc : Nat} {lv st : List Value} {h : mh_T} {Q : Nat × Nat} {a1 a2 : Value} (hd : decode uL.2.1 pc = .ok (.invokevirtual 136, 3)) (hq : Q.1 ≤ 601024 ∧ Q.2 ≤ 7293034) (hst : (st.map fun v => v.category).sum ≤ 8) (hM : MC g yX11_square uX11_square [.ref 11, a1, a2] h (fun v h' => LE g uL (pc + 3) lv (v.toList ++ st) h' Q)) : LE g uL pc lv (a2 :: a1 :: .ref 11 :: st) h Q := l_callV (As := [a1, a2]) (n := 2) (ci := 11) (k := 11) (q := (RX11, TX11, 40)) hd lk_L_136 tl_224 tl_225 rfl rfl (by decide) (by decide) rfl (by decide) hq hst hM
set_option maxRecDepth 100000 in
theorem lk_L_137 : mLk RL 137 yX10_corners uX10_corners 0 := ⟨tl_226, tl_227, tl_2, by decide +kernel, Nat.le_of_ble_eq_true rfl⟩
set_option maxRecDepth 100000 in
theorem cl_L_137 {g : gT} {pc : Nat} {lv st : List Value} {h : mh_T} {Q : Nat × Nat} (hd : decode uL.2.1 pc = .ok (.invokevirtual 137, 3)) (hq : Q.1 ≤ 601024 ∧ Q.2 ≤ 7293034) (hst : (st.map fun v => v.category).sum ≤ 8) (hM : MC g yX10_corners uX10_corners [.ref 0] h (fun v h' => LE g uL (pc + 3) lv (v.toList ++ st) h' Q)) : LE g uL pc lv (.ref 0 :: st) h Q := l_callV (As := []) (n := 0) (ci := 10) (k := 0) (q := (RX10, TX10, 14)) hd lk_L_137 tl_228 tl_229 rfl rfl (by decide) (by decide) rfl (by decide) hq hst hM
set_option maxRecDepth 100000 in
theorem lk_L_140 : mLk RL 140 yX11_corners uX11_corners 0 := ⟨tl_230, tl_231, tl_7, by decide +kernel, Nat.le_of_ble_eq_true rfl⟩
set_option maxRecDepth 100000 in
theorem cl_L_140 {g : gT} {pc : Nat} {lv st : List Value} {h : mh_T} {Q : Nat × Nat} (hd : decode uL.2.1 pc = .ok (.invokevirtual 140, 3)) (hq : Q.1 ≤ 601024 ∧ Q.2 ≤ 7293034) (hst : (st.map fun v => v.category).sum ≤ 8) (hM : MC g yX11_corners uX11_corners [.ref 11] h (fun v h' => LE g uL (pc + 3) lv (v.toList ++ st) h' Q)) : LE g uL pc lv (.ref 11 :: st) h Q := l_callV (As := []) (n := 0) (ci := 11) (k := 11) (q := (RX11, TX11, 40)) hd lk_L_140 tl_232 tl_233 rfl rfl (by decide) (by decide) rfl (by decide) hq hst hM
set_option maxRecDepth 100000 in
theorem lk_L_141 : mLk RL 141 yX10_colours uX10_colours 0 := ⟨tl_234, tl_235, tl_2, by decide +kernel, Nat.le_of_ble_eq_true rfl⟩
set_option maxRecDepth 100000 in
theorem cl_L_141 {g : gT} {pc : Nat} {lv st : List Value} {h : mh_T} {Q : Nat × Nat} (hd : decode uL.2.1 pc = .ok (.invokevirtual 141, 3)) (hq : Q.1 ≤ 601024 ∧ Q.2 ≤ 7293034) (hst : (st.map fun v => v.category).sum ≤ 8) (hM : MC g yX10_colours uX10_colours [.ref 0] h (fun v h' => LE g uL (pc + 3) lv (v.toList ++ st) h' Q)) : LE g uL pc lv (.ref 0 :: st) h Q := l_callV (As := []) (n := 0) (ci := 10) (k := 0) (q := (RX10, TX10, 14)) hd lk_L_141 tl_236 tl_237 rfl rfl (by decide) (by decide) rfl (by decide) hq hst hM
set_option maxRecDepth 100000 in
theorem lk_L_144 : mLk RL 144 yX11_colours uX11_colours 0 := ⟨tl_238, tl_239, tl_7, by decide +kernel, Nat.le_of_ble_eq_true rfl⟩
set_option maxRecDepth 100000 in
theorem cl_L_144 {g : gT} {pc : Nat} {lv st : List Value} {h : mh_T} {Q : Nat × Nat} (hd : decode uL.2.1 pc = .ok (.invokevirtual 144, 3)) (hq : Q.1 ≤ 601024 ∧ Q.2 ≤ 7293034) (hst : (st.map fun v => v.category).sum ≤ 8) (hM : MC g yX11_colours uX11_colours [.ref 11] h (fun v h' => LE g uL (pc + 3) lv (v.toList ++ st) h' Q)) : LE g uL pc lv (.ref 11 :: st) h Q := l_callV (As := []) (n := 0) (ci := 11) (k := 11) (q := (RX11, TX11, 40)) hd lk_L_144 tl_240 tl_241 rfl rfl (by decide) (by decide) rfl (by decide) hq hst hM
set_option maxRecDepth 100000 in
theorem lk_L_145 : mLk RL 145 yX10_ones uX10_ones 0 := ⟨tl_242, tl_243, tl_2, by decide +kernel, Nat.le_of_ble_eq_true rfl⟩
set_option maxRecDepth 100000 in
theorem cl_L_145 {g : gT} {pc : Nat} {lv st : List Value} {h : mh_T} {Q : Nat × Nat} (hd : decode uL.2.1 pc = .ok (.invokevirtual 145, 3)) (hq : Q.1 ≤ 601024 ∧ Q.2 ≤ 7293034) (hst : (st.map fun v => v.category).sum ≤ 8) (hM : MC g yX10_ones uX10_ones [.ref 0] h (fun v h' => LE g uL (pc + 3) lv (v.toList ++ st) h' Q)) : LE g uL pc lv (.ref 0 :: st) h Q := l_callV (As := []) (n := 0) (ci := 10) (k := 0) (q := (RX10, TX10, 14)) hd lk_L_145 tl_244 tl_245 rfl rfl (by decide) (by decide) rfl (by decide) hq hst hM
set_option maxRecDepth 100000 in
theorem lk_L_148 : mLk RL 148 yX11_ones uX11_ones 0 := ⟨tl_246, tl_247, tl_7, by decide +kernel, Nat.le_of_ble_eq_true rfl⟩
set_option maxRecDepth 100000 in
theorem cl_L_148 {g : gT} {pc : Nat} {lv st : List Value} {h : mh_T} {Q : Nat × Nat} (hd : decode uL.2.1 pc = .ok (.invokevirtual 148, 3)) (hq : Q.1 ≤ 601024 ∧ Q.2 ≤ 7293034) (hst : (st.map fun v => v.category).sum ≤ 8) (hM : MC g yX11_ones uX11_ones [.ref 11] h (fun v h' => LE g uL (pc + 3) lv (v.toList ++ st) h' Q)) : LE g uL pc lv (.ref 11 :: st) h Q := l_callV (As := []) (n := 0) (ci := 11) (k := 11) (q := (RX11, TX11, 40)) hd lk_L_148 tl_248 tl_249 rfl rfl (by decide) (by decide) rfl (by decide) hq hst hM
set_option maxRecDepth 100000 in
theorem lk_L_149 : mLk RL 149 yX10_spare uX10_spare 0 := ⟨tl_250, tl_251, tl_2, by decide +kernel, Nat.le_of_ble_eq_true rfl⟩
set_option maxRecDepth 100000 in
theorem cl_L_149 {g : gT} {pc : Nat} {lv st : List Value} {h : mh_T} {Q : Nat × Nat} (hd : decode uL.2.1 pc = .ok (.invokevirtual 149, 3)) (hq : Q.1 ≤ 601024 ∧ Q.2 ≤ 7293034) (hst : (st.map fun v => v.category).sum ≤ 8) (hM : MC g yX10_spare uX10_spare [.ref 0] h (fun v h' => LE g uL (pc + 3) lv (v.toList ++ st) h' Q)) : LE g uL pc lv (.ref 0 :: st) h Q := l_callV (As := []) (n := 0) (ci := 10) (k := 0) (q := (RX10, TX10, 14)) hd lk_L_149 tl_252 tl_253 rfl rfl (by decide) (by decide) rfl (by decide) hq hst hM
set_option maxRecDepth 100000 in
theorem lk_L_152 : mLk RL 152 yX11_spare uX11_spare 0 := ⟨tl_254, tl_255, tl_7, by decide +kernel, Nat.le_of_ble_eq_true rfl⟩
set_option maxRecDepth 100000 in
theorem cl_L_152 {g : gT} {pc : Nat} {lv st : List Value} {h : mh_T} {Q : Nat × Nat} (hd : decode uL.2.1 pc = .ok (.invokevirtual 152, 3)) (hq : Q.1 ≤ 601024 ∧ Q.2 ≤ 7293034) (hst : (st.map fun v => v.category).sum ≤ 8) (hM : MC g yX11_spare uX11_spare [.ref 11] h (fun v h' => LE g uL (pc + 3) lv (v.toList ++ st) h' Q)) : LE g uL pc lv (.ref 11 :: st) h Q := l_callV (As := []) (n := 0) (ci := 11) (k := 11) (q := (RX11, TX11, 40)) hd lk_L_152 tl_256 tl_257 rfl rfl (by decide) (by decide) rfl (by decide) hq hst hM
set_option maxRecDepth 100000 in
theorem lk_L_153 : mLk RL 153 yX10_critical uX10_critical 0 := ⟨tl_258, tl_259, tl_2, by decide +kernel, Nat.le_of_ble_eq_true rfl⟩
set_option maxRecDepth 100000 in
theorem cl_L_153 {g : gT} {pc : Nat} {lv st : List Value} {h : mh_T} {Q : Nat × Nat} (hd : decode uL.2.1 pc = .ok (.invokevirtual 153, 3)) (hq : Q.1 ≤ 601024 ∧ Q.2 ≤ 7293034) (hst : (st.map fun v => v.category).sum ≤ 8) (hM : MC g yX10_critical uX10_critical [.ref 0] h (fun v h' => LE g uL (pc + 3) lv (v.toList ++ st) h' Q)) : LE g uL pc lv (.ref 0 :: st) h Q := l_callV (As := []) (n := 0) (ci := 10) (k := 0) (q := (RX10, TX10, 14)) hd lk_L_153 tl_260 tl_261 rfl rfl (by decide) (by decide) rfl (by decide) hq hst hM
set_option maxRecDepth 100000 in
theorem lk_L_156 : mLk RL 156 yX11_critical uX11_critical 0 := ⟨tl_262, tl_263, tl_7, by decide +kernel, Nat.le_of_ble_eq_true rfl⟩
set_option maxRecDepth 100000 in
theorem cl_L_156 {g : gT} {pc : Nat} {lv st : List Value} {h : mh_T} {Q : Nat × Nat} (hd : decode uL.2.1 pc = .ok (.invokevirtual 156, 3)) (hq : Q.1 ≤ 601024 ∧ Q.2 ≤ 7293034) (hst : (st.map fun v => v.category).sum ≤ 8) (hM : MC g yX11_critical uX11_critical [.ref 11] h (fun v h' => LE g uL (pc + 3) lv (v.toList ++ st) h' Q)) : LE g uL pc lv (.ref 11 :: st) h Q := l_callV (As := []) (n := 0) (ci := 11) (k := 11) (q := (RX11, TX11, 40)) hd lk_L_156 tl_264 tl_265 rfl rfl (by decide) (by decide) rfl (by decide) hq hst hM
set_option maxRecDepth 100000 in
theorem lk_L_157 : mLk RL 157 yX10_memory uX10_memory 0 := ⟨tl_266, tl_267, tl_2, by decide +kernel, Nat.le_of_ble_eq_true rfl⟩
set_option maxRecDepth 100000 in
theorem cl_L_157 {g : gT} {pc : Nat} {lv st : List Value} {h : mh_T} {Q : Nat × Nat} (hd : decode uL.2.1 pc = .ok (.invokevirtual 157, 3)) (hq : Q.1 ≤ 601024 ∧ Q.2 ≤ 7293034) (hst : (st.map fun v => v.category).sum ≤ 8) (hM : MC g yX10_memory uX10_memory [.ref 0] h (fun v h' => LE g uL (pc + 3) lv (v.toList ++ st) h' Q)) : LE g uL pc lv (.ref 0 :: st) h Q := l_callV (As := []) (n := 0) (ci := 10) (k := 0) (q := (RX10, TX10, 14)) hd lk_L_157 tl_268 tl_269 rfl rfl (by decide) (by decide) rfl (by decide) hq hst hM
set_option maxRecDepth 100000 in
theorem lk_L_160 : mLk RL 160 yX11_memory uX11_memory 0 := ⟨tl_270, tl_271, tl_7, by decide +kernel, Nat.le_of_ble_eq_true rfl⟩
set_option maxRecDepth 100000 in
theorem cl_L_160 {g : gT} {pc : Nat} {lv st : List Value} {h : mh_T} {Q : Nat × Nat} (hd : decode uL.2.1 pc = .ok (.invokevirtual 160, 3)) (hq : Q.1 ≤ 601024 ∧ Q.2 ≤ 7293034) (hst : (st.map fun v => v.category).sum ≤ 8) (hM : MC g yX11_memory uX11_memory [.ref 11] h (fun v h' => LE g uL (pc + 3) lv (v.toList ++ st) h' Q)) : LE g uL pc lv (.ref 11 :: st) h Q := l_callV (As := []) (n := 0) (ci := 11) (k := 11) (q := (RX11, TX11, 40)) hd lk_L_160 tl_272 tl_273 rfl rfl (by decide) (by decide) rfl (by decide) hq hst hM
set_option maxRecDepth 100000 in
theorem lk_L_161 : mLk RL 161 yX10_machine uX10_machine 3 := ⟨tl_274, tl_275, tl_2, by decide +kernel, Nat.le_of_ble_eq_true rfl⟩
set_option maxRecDepth 100000 in
theorem cl_L_161 {g : gT} {pc : Nat} {lv st : List Value} {h : mh_T} {Q : Nat × Nat} {a1 a2 a3 : Value} (hd : decode uL.2.1 pc = .ok (.invokevirtual 161, 3)) (hq : Q.1 ≤ 601024 ∧ Q.2 ≤ 7293034) (hst : (st.map fun v => v.category).sum ≤ 8) (hM : MC g yX10_machine uX10_machine [.ref 0, a1, a2, a3] h (fun v h' => LE g uL (pc + 3) lv (v.toList ++ st) h' Q)) : LE g uL pc lv (a3 :: a2 :: a1 :: .ref 0 :: st) h Q := l_callV (As := [a1, a2, a3]) (n := 3) (ci := 10) (k := 0) (q := (RX10, TX10, 14)) hd lk_L_161 tl_276 tl_277 rfl rfl (by decide) (by decide) rfl (by decide) hq hst hM
set_option maxRecDepth 100000 in
theorem lk_L_165 : mLk RL 165 yX11_machine uX11_machine 3 := ⟨tl_278, tl_279, tl_7, by decide +kernel, Nat.le_of_ble_eq_true rfl⟩
set_option maxRecDepth 100000 in
theorem cl_L_165 {g : gT} {pc : Nat} {lv st : List Value} {h : mh_T} {Q : Nat × Nat} {a1 a2 a3 : Value} (hd : decode uL.2.1 pc = .ok (.invokevirtual 165, 3)) (hq : Q.1 ≤ 601024 ∧ Q.2 ≤ 7293034) (hst : (st.map fun v => v.category).sum ≤ 8) (hM : MC g yX11_machine uX11_machine [.ref 11, a1, a2, a3] h (fun v h' => LE g uL (pc + 3) lv (v.toList ++ st) h' Q)) : LE g uL pc lv (a3 :: a2 :: a1 :: .ref 11 :: st) h Q := l_callV (As := [a1, a2, a3]) (n := 3) (ci := 11) (k := 11) (q := (RX11, TX11, 40)) hd lk_L_165 tl_280 tl_281 rfl rfl (by decide) (by decide) rfl (by decide) hq hst hM
set_option maxRecDepth 100000 in
theorem lk_L_166 : mLk RL 166 yX10_flip uX10_flip 1 := ⟨tl_282, tl_283, tl_2, by decide +kernel, Nat.le_of_ble_eq_true rfl⟩
set_option maxRecDepth 100000 in
theorem cl_L_166 {g : gT} {pc : Nat} {lv st : List Value} {h : mh_T} {Q : Nat × Nat} {a1 : Value} (hd : decode uL.2.1 pc = .ok (.invokevirtual 166, 3)) (hq : Q.1 ≤ 601024 ∧ Q.2 ≤ 7293034) (hst : (st.map fun v => v.category).sum ≤ 8) (hM : MC g yX10_flip uX10_flip [.ref 0, a1] h (fun v h' => LE g uL (pc + 3) lv (v.toList ++ st) h' Q)) : LE g uL pc lv (a1 :: .ref 0 :: st) h Q := l_callV (As := [a1]) (n := 1) (ci := 10) (k := 0) (q := (RX10, TX10, 14)) hd lk_L_166 tl_284 tl_285 rfl rfl (by decide) (by decide) rfl (by decide) hq hst hM
set_option maxRecDepth 100000 in
theorem lk_L_170 : mLk RL 170 yX11_flip uX11_flip 1 := ⟨tl_286, tl_287, tl_7, by decide +kernel, Nat.le_of_ble_eq_true rfl⟩
set_option maxRecDepth 100000 in
theorem cl_L_170 {g : gT} {pc : Nat} {lv st : List Value} {h : mh_T} {Q : Nat × Nat} {a1 : Value} (hd : decode uL.2.1 pc = .ok (.invokevirtual 170, 3)) (hq : Q.1 ≤ 601024 ∧ Q.2 ≤ 7293034) (hst : (st.map fun v => v.category).sum ≤ 8) (hM : MC g yX11_flip uX11_flip [.ref 11, a1] h (fun v h' => LE g uL (pc + 3) lv (v.toList ++ st) h' Q)) : LE g uL pc lv (a1 :: .ref 11 :: st) h Q := l_callV (As := [a1]) (n := 1) (ci := 11) (k := 11) (q := (RX11, TX11, 40)) hd lk_L_170 tl_288 tl_289 rfl rfl (by decide) (by decide) rfl (by decide) hq hst hM
set_option maxRecDepth 100000 in
theorem lk_L_171 : mLk RL 171 yX10_drop uX10_drop 1 := ⟨tl_290, tl_291, tl_2, by decide +kernel, Nat.le_of_ble_eq_true rfl⟩
set_option maxRecDepth 100000 in
theorem cl_L_171 {g : gT} {pc : Nat} {lv st : List Value} {h : mh_T} {Q : Nat × Nat} {a1 : Value} (hd : decode uL.2.1 pc = .ok (.invokevirtual 171, 3)) (hq : Q.1 ≤ 601024 ∧ Q.2 ≤ 7293034) (hst : (st.map fun v => v.category).sum ≤ 8) (hM : MC g yX10_drop uX10_drop [.ref 0, a1] h (fun v h' => LE g uL (pc + 3) lv (v.toList ++ st) h' Q)) : LE g uL pc lv (a1 :: .ref 0 :: st) h Q := l_callV (As := [a1]) (n := 1) (ci := 10) (k := 0) (q := (RX10, TX10, 14)) hd lk_L_171 tl_292 tl_293 rfl rfl (by decide) (by decide) rfl (by decide) hq hst hM
set_option maxRecDepth 100000 in
theorem lk_L_174 : mLk RL 174 yX11_drop uX11_drop 1 := ⟨tl_294, tl_295, tl_7, by decide +kernel, Nat.le_of_ble_eq_true rfl⟩
set_option maxRecDepth 100000 in
theorem cl_L_174 {g : gT} {pc : Nat} {lv st : List Value} {h : mh_T} {Q : Nat × Nat} {a1 : Value} (hd : decode uL.2.1 pc = .ok (.invokevirtual 174, 3)) (hq : Q.1 ≤ 601024 ∧ Q.2 ≤ 7293034) (hst : (st.map fun v => v.category).sum ≤ 8) (hM : MC g yX11_drop uX11_drop [.ref 11, a1] h (fun v h' => LE g uL (pc + 3) lv (v.toList ++ st) h' Q)) : LE g uL pc lv (a1 :: .ref 11 :: st) h Q := l_callV (As := [a1]) (n := 1) (ci := 11) (k := 11) (q := (RX11, TX11, 40)) hd lk_L_174 tl_296 tl_297 rfl rfl (by decide) (by decide) rfl (by decide) hq hst hM
set_option maxRecDepth 100000 in
theorem lk_L_175 : mLk RL 175 yX10_forget uX10_forget 1 := ⟨tl_298, tl_299, tl_2, by decide +kernel, Nat.le_of_ble_eq_true rfl⟩
set_option maxRecDepth 100000 in
theorem cl_L_175 {g : gT} {pc : Nat} {lv st : List Value} {h : mh_T} {Q : Nat × Nat} {a1 : Value} (hd : decode uL.2.1 pc = .ok (.invokevirtual 175, 3)) (hq : Q.1 ≤ 601024 ∧ Q.2 ≤ 7293034) (hst : (st.map fun v => v.category).sum ≤ 8) (hM : MC g yX10_forget uX10_forget [.ref 0, a1] h (fun v h' => LE g uL (pc + 3) lv (v.toList ++ st) h' Q)) : LE g uL pc lv (a1 :: .ref 0 :: st) h Q := l_callV (As := [a1]) (n := 1) (ci := 10) (k := 0) (q := (RX10, TX10, 14)) hd lk_L_175 tl_300 tl_301 rfl rfl (by decide) (by decide) rfl (by decide) hq hst hM
set_option maxRecDepth 100000 in
theorem lk_L_178 : mLk RL 178 yX11_forget uX11_forget 1 := ⟨tl_302, tl_303, tl_7, by decide +kernel, Nat.le_of_ble_eq_true rfl⟩
set_option maxRecDepth 100000 in
theorem cl_L_178 {g : gT} {pc : Nat} {lv st : List Value} {h : mh_T} {Q : Nat × Nat} {a1 : Value} (hd : decode uL.2.1 pc = .ok (.invokevirtual 178, 3)) (hq : Q.1 ≤ 601024 ∧ Q.2 ≤ 7293034) (hst : (st.map fun v => v.category).sum ≤ 8) (hM : MC g yX11_forget uX11_forget [.ref 11, a1] h (fun v h' => LE g uL (pc + 3) lv (v.toList ++ st) h' Q)) : LE g uL pc lv (a1 :: .ref 11 :: st) h Q := l_callV (As := [a1]) (n := 1) (ci := 11) (k := 11) (q := (RX11, TX11, 40)) hd lk_L_178 tl_304 tl_305 rfl rfl (by decide) (by decide) rfl (by decide) hq hst hM
set_option maxRecDepth 100000 in
theorem lk_L_179 : mLk RL 179 yX10_shift uX10_shift 4 := ⟨tl_306, tl_307, tl_2, by decide +kernel, Nat.le_of_ble_eq_true rfl⟩
set_option maxRecDepth 100000 in
theorem cl_L_179 {g : gT} {pc : Nat} {lv st : List Value} {h : mh_T} {Q : Nat × Nat} {a1 a2 a3 a4 : Value} (hd : decode uL.2.1 pc = .ok (.invokevirtual 179, 3)) (hq : Q.1 ≤ 601024 ∧ Q.2 ≤ 7293034) (hst : (st.map fun v => v.category).sum ≤ 8) (hM : MC g yX10_shift uX10_shift [.ref 0, a1, a2, a3, a4] h (fun v h' => LE g uL (pc + 3) lv (v.toList ++ st) h' Q)) : LE g uL pc lv (a4 :: a3 :: a2 :: a1 :: .ref 0 :: st) h Q := l_callV (As := [a1, a2, a3, a4]) (n := 4) (ci := 10) (k := 0) (q := (RX10, TX10, 14)) hd lk_L_179 tl_308 tl_309 rfl rfl (by decide) (by decide) rfl (by decide) hq hst hM
set_option maxRecDepth 100000 in
theorem lk_L_183 : mLk RL 183 yX11_shift uX11_shift 4 := ⟨tl_310, tl_311, tl_7, by decide +kernel, Nat.le_of_ble_eq_true rfl⟩
set_option maxRecDepth 100000 in
theorem cl_L_183 {g : gT} {pc : Nat} {lv st : List Value} {h : mh_T} {Q : Nat × Nat} {a1 a2 a3 a4 : Value} (hd : decode uL.2.1 pc = .ok (.invokevirtual 183, 3)) (hq : Q.1 ≤ 601024 ∧ Q.2 ≤ 7293034) (hst : (st.map fun v => v.category).sum ≤ 8) (hM : MC g yX11_shift uX11_shift [.ref 11, a1, a2, a3, a4] h (fun v h' => LE g uL (pc + 3) lv (v.toList ++ st) h' Q)) : LE g uL pc lv (a4 :: a3 :: a2 :: a1 :: .ref 11 :: st) h Q := l_callV (As := [a1, a2, a3, a4]) (n := 4) (ci := 11) (k := 11) (q := (RX11, TX11, 40)) hd lk_L_183 tl_312 tl_313 rfl rfl (by decide) (by decide) rfl (by decide) hq hst hM
set_option maxRecDepth 100000 in
theorem lk_L_184 : mLk RL 184 yX10_undo uX10_undo 0 := ⟨tl_314, tl_315, tl_2, by decide +kernel, Nat.le_of_ble_eq_true rfl⟩
set_option maxRecDepth 100000 in
theorem cl_L_184 {g : gT} {pc : Nat} {lv st : List Value} {h : mh_T} {Q : Nat × Nat} (hd : decode uL.2.1 pc = .ok (.invokevirtual 184, 3)) (hq : Q.1 ≤ 601024 ∧ Q.2 ≤ 7293034) (hst : (st.map fun v => v.category).sum ≤ 8) (hM : MC g yX10_undo uX10_undo [.ref 0] h (fun v h' => LE g uL (pc + 3) lv (v.toList ++ st) h' Q)) : LE g uL pc lv (.ref 0 :: st) h Q := l_callV (As := []) (n := 0) (ci := 10) (k := 0) (q := (RX10, TX10, 14)) hd lk_L_184 tl_316 tl_317 rfl rfl (by decide) (by decide) rfl (by decide) hq hst hM
set_option maxRecDepth 100000 in
theorem lk_L_188 : mLk RL 188 yX11_undo uX11_undo 0 := ⟨tl_318, tl_319, tl_7, by decide +kernel, Nat.le_of_ble_eq_true rfl⟩
set_option maxRecDepth 100000 in
theorem cl_L_188 {g : gT} {pc : Nat} {lv st : List Value} {h : mh_T} {Q : Nat × Nat} (hd : decode uL.2.1 pc = .ok (.invokevirtual 188, 3)) (hq : Q.1 ≤ 601024 ∧ Q.2 ≤ 7293034) (hst : (st.map fun v => v.category).sum ≤ 8) (hM : MC g yX11_undo uX11_undo [.ref 11] h (fun v h' => LE g uL (pc + 3) lv (v.toList ++ st) h' Q)) : LE g uL pc lv (.ref 11 :: st) h Q := l_callV (As := []) (n := 0) (ci := 11) (k := 11) (q := (RX11, TX11, 40)) hd lk_L_188 tl_320 tl_321 rfl rfl (by decide) (by decide) rfl (by decide) hq hst hM
set_option maxRecDepth 100000 in
theorem lk_L_189 : mLk RL 189 yX10_redo uX10_redo 0 := ⟨tl_322, tl_323, tl_2, by decide +kernel, Nat.le_of_ble_eq_true rfl⟩
set_option maxRecDepth 100000 in
theorem cl_L_189 {g : gT} {pc : Nat} {lv st : List Value} {h : mh_T} {Q : Nat × Nat} (hd : decode uL.2.1 pc = .ok (.invokevirtual 189, 3)) (hq : Q.1 ≤ 601024 ∧ Q.2 ≤ 7293034) (hst : (st.map fun v => v.category).sum ≤ 8) (hM : MC g yX10_redo uX10_redo [.ref 0] h (fun v h' => LE g uL (pc + 3) lv (v.toList ++ st) h' Q)) : LE g uL pc lv (.ref 0 :: st) h Q := l_callV (As := []) (n := 0) (ci := 10) (k := 0) (q := (RX10, TX10, 14)) hd lk_L_189 tl_324 tl_325 rfl rfl (by decide) (by decide) rfl (by decide) hq hst hM
set_option maxRecDepth 100000 in
theorem lk_L_192 : mLk RL 192 yX11_redo uX11_redo 0 := ⟨tl_326, tl_327, tl_7, by decide +kernel, Nat.le_of_ble_eq_true rfl⟩
set_option maxRecDepth 100000 in
theorem cl_L_192 {g : gT} {pc : Nat} {lv st : List Value} {h : mh_T} {Q : Nat × Nat} (hd : decode uL.2.1 pc = .ok (.invokevirtual 192, 3)) (hq : Q.1 ≤ 601024 ∧ Q.2 ≤ 7293034) (hst : (st.map fun v => v.category).sum ≤ 8) (hM : MC g yX11_redo uX11_redo [.ref 11] h (fun v h' => LE g uL (pc + 3) lv (v.toList ++ st) h' Q)) : LE g uL pc lv (.ref 11 :: st) h Q := l_callV (As := []) (n := 0) (ci := 11) (k := 11) (q := (RX11, TX11, 40)) hd lk_L_192 tl_328 tl_329 rfl rfl (by decide) (by decide) rfl (by decide) hq hst hM
set_option maxRecDepth 100000 in
theorem lk_L_193 : mLk RL 193 yX10_mark uX10_mark 0 := ⟨tl_330, tl_331, tl_2, by decide +kernel, Nat.le_of_ble_eq_true rfl⟩
set_option maxRecDepth 100000 in
theorem cl_L_193 {g : gT} {pc : Nat} {lv st : List Value} {h : mh_T} {Q : Nat × Nat} (hd : decode uL.2.1 pc = .ok (.invokevirtual 193, 3)) (hq : Q.1 ≤ 601024 ∧ Q.2 ≤ 7293034) (hst : (st.map fun v => v.category).sum ≤ 8) (hM : MC g yX10_mark uX10_mark [.ref 0] h (fun v h' => LE g uL (pc + 3) lv (v.toList ++ st) h' Q)) : LE g uL pc lv (.ref 0 :: st) h Q := l_callV (As := []) (n := 0) (ci := 10) (k := 0) (q := (RX10, TX10, 14)) hd lk_L_193 tl_332 tl_333 rfl rfl (by decide) (by decide) rfl (by decide) hq hst hM
set_option maxRecDepth 100000 in
theorem lk_L_196 : mLk RL 196 yX11_mark uX11_mark 0 := ⟨tl_334, tl_335, tl_7, by decide +kernel, Nat.le_of_ble_eq_true rfl⟩
set_option maxRecDepth 100000 in
theorem cl_L_196 {g : gT} {pc : Nat} {lv st : List Value} {h : mh_T} {Q : Nat × Nat} (hd : decode uL.2.1 pc = .ok (.invokevirtual 196, 3)) (hq : Q.1 ≤ 601024 ∧ Q.2 ≤ 7293034) (hst : (st.map fun v => v.category).sum ≤ 8) (hM : MC g yX11_mark uX11_mark [.ref 11] h (fun v h' => LE g uL (pc + 3) lv (v.toList ++ st) h' Q)) : LE g uL pc lv (.ref 11 :: st) h Q := l_callV (As := []) (n := 0) (ci := 11) (k := 11) (q := (RX11, TX11, 40)) hd lk_L_196 tl_336 tl_337 rfl rfl (by decide) (by decide) rfl (by decide) hq hst hM
set_option maxRecDepth 100000 in
theorem lk_L_197 : mLk RL 197 yX10_back uX10_back 1 := ⟨tl_338, tl_339, tl_2, by decide +kernel, Nat.le_of_ble_eq_true rfl⟩
set_option maxRecDepth 100000 in
theorem cl_L_197 {g : gT} {pc : Nat} {lv st : List Value} {h : mh_T} {Q : Nat × Nat} {a1 : Value} (hd : decode uL.2.1 pc = .ok (.invokevirtual 197, 3)) (hq : Q.1 ≤ 601024 ∧ Q.2 ≤ 7293034) (hst : (st.map fun v => v.category).sum ≤ 8) (hM : MC g yX10_back uX10_back [.ref 0, a1] h (fun v h' => LE g uL (pc + 3) lv (v.toList ++ st) h' Q)) : LE g uL pc lv (a1 :: .ref 0 :: st) h Q := l_callV (As := [a1]) (n := 1) (ci := 10) (k := 0) (q := (RX10, TX10, 14)) hd lk_L_197 tl_340 tl_341 rfl rfl (by decide) (by decide) rfl (by decide) hq hst hM
set_option maxRecDepth 100000 in
theorem lk_L_200 : mLk RL 200 yX11_back uX11_back 1 := ⟨tl_342, tl_343, tl_7, by decide +kernel, Nat.le_of_ble_eq_true rfl⟩
set_option maxRecDepth 100000 in
theorem cl_L_200 {g : gT} {pc : Nat} {lv st : List Value} {h : mh_T} {Q : Nat × Nat} {a1 : Value} (hd : decode uL.2.1 pc = .ok (.invokevirtual 200, 3)) (hq : Q.1 ≤ 601024 ∧ Q.2 ≤ 7293034) (hst : (st.map fun v => v.category).sum ≤ 8) (hM : MC g yX11_back uX11_back [.ref 11, a1] h (fun v h' => LE g uL (pc + 3) lv (v.toList ++ st) h' Q)) : LE g uL pc lv (a1 :: .ref 11 :: st) h Q := l_callV (As := [a1]) (n := 1) (ci := 11) (k := 11) (q := (RX11, TX11, 40)) hd lk_L_200 tl_344 tl_345 rfl rfl (by decide) (by decide) rfl (by decide) hq hst hM
set_option maxRecDepth 100000 in
theorem lk_L_201 : mLk RL 201 yX10_act uX10_act 2 := ⟨tl_346, tl_347, tl_2, by decide +kernel, Nat.le_of_ble_eq_true rfl⟩
set_option maxRecDepth 100000 in
theorem cl_L_201 {g : gT} {pc : Nat} {lv st : List Value} {h : mh_T} {Q : Nat × Nat} {a1 a2 : Value} (hd : decode uL.2.1 pc = .ok (.invokevirtual 201, 3)) (hq : Q.1 ≤ 601024 ∧ Q.2 ≤ 7293034) (hst : (st.map fun v => v.category).sum ≤ 8) (hM : MC g yX10_act uX10_act [.ref 0, a1, a2] h (fun v h' => LE g uL (pc + 3) lv (v.toList ++ st) h' Q)) : LE g uL pc lv (a2 :: a1 :: .ref 0 :: st) h Q := l_callV (As := [a1, a2]) (n := 2) (ci := 10) (k := 0) (q := (RX10, TX10, 14)) hd lk_L_201 tl_348 tl_349 rfl rfl (by decide) (by decide) rfl (by decide) hq hst hM
set_option maxRecDepth 100000 in
theorem lk_L_204 : mLk RL 204 yX11_act uX11_act 2 := ⟨tl_350, tl_351, tl_7, by decide +kernel, Nat.le_of_ble_eq_true rfl⟩
set_option maxRecDepth 100000 in
theorem cl_L_204 {g : gT} {pc : Nat} {lv st : List Value} {h : mh_T} {Q : Nat × Nat} {a1 a2 : Value} (hd : decode uL.2.1 pc = .ok (.invokevirtual 204, 3)) (hq : Q.1 ≤ 601024 ∧ Q.2 ≤ 7293034) (hst : (st.map fun v => v.category).sum ≤ 8) (hM : MC g yX11_act uX11_act [.ref 11, a1, a2] h (fun v h' => LE g uL (pc + 3) lv (v.toList ++ st) h' Q)) : LE g uL pc lv (a2 :: a1 :: .ref 11 :: st) h Q := l_callV (As := [a1, a2]) (n := 2) (ci := 11) (k := 11) (q := (RX11, TX11, 40)) hd lk_L_204 tl_352 tl_353 rfl rfl (by decide) (by decide) rfl (by decide) hq hst hM
set_option maxRecDepth 100000 in
theorem lk_L_205 : mLk RL 205 yX10_times uX10_times 2 := ⟨tl_354, tl_355, tl_2, by decide +kernel, Nat.le_of_ble_eq_true rfl⟩
set_option maxRecDepth 100000 in
theorem cl_L_205 {g : gT} {pc : Nat} {lv st : List Value} {h : mh_T} {Q : Nat × Nat} {a1 a2 : Value} (hd : decode uL.2.1 pc = .ok (.invokevirtual 205, 3)) (hq : Q.1 ≤ 601024 ∧ Q.2 ≤ 7293034) (hst : (st.map fun v => v.category).sum ≤ 8) (hM : MC g yX10_times uX10_times [.ref 0, a1, a2] h (fun v h' => LE g uL (pc + 3) lv (v.toList ++ st) h' Q)) : LE g uL pc lv (a2 :: a1 :: .ref 0 :: st) h Q := l_callV (As := [a1, a2]) (n := 2) (ci := 10) (k := 0) (q := (RX10, TX10, 14)) hd lk_L_205 tl_356 tl_357 rfl rfl (by decide) (by decide) rfl (by decide) hq hst hM
set_option maxRecDepth 100000 in
theorem lk_L_208 : mLk RL 208 yX11_times uX11_times 2 := ⟨tl_358, tl_359, tl_7, by decide +kernel, Nat.le_of_ble_eq_true rfl⟩
set_option maxRecDepth 100000 in
theorem cl_L_208 {g : gT} {pc : Nat} {lv st : List Value} {h : mh_T} {Q : Nat × Nat} {a1 a2 : Value} (hd : decode uL.2.1 pc = .ok (.invokevirtual 208, 3)) (hq : Q.1 ≤ 601024 ∧ Q.2 ≤ 7293034) (hst : (st.map fun v => v.category).sum ≤ 8) (hM : MC g yX11_times uX11_times [.ref 11, a1, a2] h (fun v h' => LE g uL (pc + 3) lv (v.toList ++ st) h' Q)) : LE g uL pc lv (a2 :: a1 :: .ref 11 :: st) h Q := l_callV (As := [a1, a2]) (n := 2) (ci := 11) (k := 11) (q := (RX11, TX11, 40)) hd lk_L_208 tl_360 tl_361 rfl rfl (by decide) (by decide) rfl (by decide) hq hst hM
set_option maxRecDepth 100000 in
theorem lk_L_209 : mLk RL 209 yX10_look uX10_look 2 := ⟨tl_362, tl_363, tl_2, by decide +kernel, Nat.le_of_ble_eq_true rfl⟩
set_option maxRecDepth 100000 in
theorem cl_L_209 {g : gT} {pc : Nat} {lv st : List Value} {h : mh_T} {Q : Nat × Nat} {a1 a2 : Value} (hd : decode uL.2.1 pc = .ok (.invokevirtual 209, 3)) (hq : Q.1 ≤ 601024 ∧ Q.2 ≤ 7293034) (hst : (st.map fun v => v.category).sum ≤ 8) (hM : MC g yX10_look uX10_look [.ref 0, a1, a2] h (fun v h' => LE g uL (pc + 3) lv (v.toList ++ st) h' Q)) : LE g uL pc lv (a2 :: a1 :: .ref 0 :: st) h Q := l_callV (As := [a1, a2]) (n := 2) (ci := 10) (k := 0) (q := (RX10, TX10, 14)) hd lk_L_209 tl_364 tl_365 rfl rfl (by decide) (by decide) rfl (by decide) hq hst hM
set_option maxRecDepth 100000 in
theorem lk_L_213 : mLk RL 213 yX11_look uX11_look 2 := ⟨tl_366, tl_367, tl_7, by decide +kernel, Nat.le_of_ble_eq_true rfl⟩
set_option maxRecDepth 100000 in
theorem cl_L_213 {g : gT} {pc : Nat} {lv st : List Value} {h : mh_T} {Q : Nat × Nat} {a1 a2 : Value} (hd : decode uL.2.1 pc = .ok (.invokevirtual 213, 3)) (hq : Q.1 ≤ 601024 ∧ Q.2 ≤ 7293034) (hst : (st.map fun v => v.category).sum ≤ 8) (hM : MC g yX11_look uX11_look [.ref 11, a1, a2] h (fun v h' => LE g uL (pc + 3) lv (v.toList ++ st) h' Q)) : LE g uL pc lv (a2 :: a1 :: .ref 11 :: st) h Q := l_callV (As := [a1, a2]) (n := 2) (ci := 11) (k := 11) (q := (RX11, TX11, 40)) hd lk_L_213 tl_368 tl_369 rfl rfl (by decide) (by decide) rfl (by decide) hq hst hM
set_option maxRecDepth 100000 in
theorem lk_L_214 : mLk RL 214 yX10_coins uX10_coins 2 := ⟨tl_370, tl_371, tl_2, by decide +kernel, Nat.le_of_ble_eq_true rfl⟩
set_option maxRecDepth 100000 in
theorem cl_L_214 {g : gT} {pc : Nat} {lv st : List Value} {h : mh_T} {Q : Nat × Nat} {a1 a2 : Value} (hd : decode uL.2.1 pc = .ok (.invokevirtual 214, 3)) (hq : Q.1 ≤ 601024 ∧ Q.2 ≤ 7293034) (hst : (st.map fun v => v.category).sum ≤ 8) (hM : MC g yX10_coins uX10_coins [.ref 0, a1, a2] h (fun v h' => LE g uL (pc + 3) lv (v.toList ++ st) h' Q)) : LE g uL pc lv (a2 :: a1 :: .ref 0 :: st) h Q := l_callV (As := [a1, a2]) (n := 2) (ci := 10) (k := 0) (q := (RX10, TX10, 14)) hd lk_L_214 tl_372 tl_373 rfl rfl (by decide) (by decide) rfl (by decide) hq hst hM
set_option maxRecDepth 100000 in
theorem lk_L_217 : mLk RL 217 yX11_coins uX11_coins 2 := ⟨tl_374, tl_375, tl_7, by decide +kernel, Nat.le_of_ble_eq_true rfl⟩
set_option maxRecDepth 100000 in
theorem cl_L_217 {g : gT} {pc : Nat} {lv st : List Value} {h : mh_T} {Q : Nat × Nat} {a1 a2 : Value} (hd : decode uL.2.1 pc = .ok (.invokevirtual 217, 3)) (hq : Q.1 ≤ 601024 ∧ Q.2 ≤ 7293034) (hst : (st.map fun v => v.category).sum ≤ 8) (hM : MC g yX11_coins uX11_coins [.ref 11, a1, a2] h (fun v h' => LE g uL (pc + 3) lv (v.toList ++ st) h' Q)) : LE g uL pc lv (a2 :: a1 :: .ref 11 :: st) h Q := l_callV (As := [a1, a2]) (n := 2) (ci := 11) (k := 11) (q := (RX11, TX11, 40)) hd lk_L_217 tl_376 tl_377 rfl rfl (by decide) (by decide) rfl (by decide) hq hst hM
set_option maxRecDepth 100000 in
theorem lk_L_224 : mLk RL 224 yX10_size uX10_size 1 := ⟨tl_378, tl_379, tl_2, by decide +kernel, Nat.le_of_ble_eq_true rfl⟩
set_option maxRecDepth 100000 in
theorem cl_L_224 {g : gT} {pc : Nat} {lv st : List Value} {h : mh_T} {Q : Nat × Nat} {a1 : Value} (hd : decode uL.2.1 pc = .ok (.invokevirtual 224, 3)) (hq : Q.1 ≤ 601024 ∧ Q.2 ≤ 7293034) (hst : (st.map fun v => v.category).sum ≤ 8) (hM : MC g yX10_size uX10_size [.ref 0, a1] h (fun v h' => LE g uL (pc + 3) lv (v.toList ++ st) h' Q)) : LE g uL pc lv (a1 :: .ref 0 :: st) h Q := l_callV (As := [a1]) (n := 1) (ci := 10) (k := 0) (q := (RX10, TX10, 14)) hd lk_L_224 tl_380 tl_381 rfl rfl (by decide) (by decide) rfl (by decide) hq hst hM
set_option maxRecDepth 100000 in
theorem lk_L_227 : mLk RL 227 yX11_size uX11_size 1 := ⟨tl_382, tl_383, tl_7, by decide +kernel, Nat.le_of_ble_eq_true rfl⟩
set_option maxRecDepth 100000 in
theorem cl_L_227 {g : gT} {pc : Nat} {lv st : List Value} {h : mh_T} {Q : Nat × Nat} {a1 : Value} (hd : decode uL.2.1 pc = .ok (.invokevirtual 227, 3)) (hq : Q.1 ≤ 601024 ∧ Q.2 ≤ 7293034) (hst : (st.map fun v => v.category).sum ≤ 8) (hM : MC g yX11_size uX11_size [.ref 11, a1] h (fun v h' => LE g uL (pc + 3) lv (v.toList ++ st) h' Q)) : LE g uL pc lv (a1 :: .ref 11 :: st) h Q := l_callV (As := [a1]) (n := 1) (ci := 11) (k := 11) (q := (RX11, TX11, 40)) hd lk_L_227 tl_384 tl_385 rfl rfl (by decide) (by decide) rfl (by decide) hq hst hM
set_option maxRecDepth 100000 in
theorem lk_L_228 : mLk RL 228 yX10_trouble uX10_trouble 0 := ⟨tl_386, tl_387, tl_2, by decide +kernel, Nat.le_of_ble_eq_true rfl⟩
set_option maxRecDepth 100000 in
theorem cl_L_228 {g : gT} {pc : Nat} {lv st : List Value} {h : mh_T} {Q : Nat × Nat} (hd : decode uL.2.1 pc = .ok (.invokevirtual 228, 3)) (hq : Q.1 ≤ 601024 ∧ Q.2 ≤ 7293034) (hst : (st.map fun v => v.category).sum ≤ 8) (hM : MC g yX10_trouble uX10_trouble [.ref 0] h (fun v h' => LE g uL (pc + 3) lv (v.toList ++ st) h' Q)) : LE g uL pc lv (.ref 0 :: st) h Q := l_callV (As := []) (n := 0) (ci := 10) (k := 0) (q := (RX10, TX10, 14)) hd lk_L_228 tl_388 tl_389 rfl rfl (by decide) (by decide) rfl (by decide) hq hst hM
set_option maxRecDepth 100000 in
theorem lk_L_231 : mLk RL 231 yX11_trouble uX11_trouble 0 := ⟨tl_390, tl_391, tl_7, by decide +kernel, Nat.le_of_ble_eq_true rfl⟩
set_option maxRecDepth 100000 in
theorem cl_L_231 {g : gT} {pc : Nat} {lv st : List Value} {h : mh_T} {Q : Nat × Nat} (hd : decode uL.2.1 pc = .ok (.invokevirtual 231, 3)) (hq : Q.1 ≤ 601024 ∧ Q.2 ≤ 7293034) (hst : (st.map fun v => v.category).sum ≤ 8) (hM : MC g yX11_trouble uX11_trouble [.ref 11] h (fun v h' => LE g uL (pc + 3) lv (v.toList ++ st) h' Q)) : LE g uL pc lv (.ref 11 :: st) h Q := l_callV (As := []) (n := 0) (ci := 11) (k := 11) (q := (RX11, TX11, 40)) hd lk_L_231 tl_392 tl_393 rfl rfl (by decide) (by decide) rfl (by decide) hq hst hM
set_option maxRecDepth 100000 in
theorem lk_L_223 : mLk RL 223 yX11_led uX11_led 1 := ⟨tl_394, tl_395, tl_7, by decide +kernel, Nat.le_of_ble_eq_true rfl⟩
set_option maxRecDepth 100000 in
theorem cl_L_223 {g : gT} {pc : Nat} {lv st : List Value} {h : mh_T} {Q : Nat × Nat} {a1 : Value} (hd : decode uL.2.1 pc = .ok (.invokevirtual 223, 3)) (hq : Q.1 ≤ 601024 ∧ Q.2 ≤ 7293034) (hst : (st.map fun v => v.category).sum ≤ 8) (hM : MC g yX11_led uX11_led [.ref 11, a1] h (fun v h' => LE g uL (pc + 3) lv (v.toList ++ st) h' Q)) : LE g uL pc lv (a1 :: .ref 11 :: st) h Q := l_callV (As := [a1]) (n := 1) (ci := 11) (k := 11) (q := (RX11, TX11, 40)) hd lk_L_223 tl_396 tl_397 rfl rfl (by decide) (by decide) rfl (by decide) hq hst hM
theorem dL_law_256 : decode cL_law 256 = .ok (.aload_n 1, 1) := dk_43 hN_cL_law rfl rfl
theorem dL_law_257 : decode cL_law 257 = .ok (.aload_n 0, 1) := dk_42 hN_cL_law rfl rfl
theorem dL_law_258 : decode cL_law 258 = .ok (.iload 4, 2) := dk_21 hN_cL_law rfl rfl rfl
theorem dL_law_260 : decode cL_law 260 = .ok (.iconst 1, 1) := dk_4 hN_cL_law rfl rfl
theorem dL_law_261 : decode cL_law 261 = .ok (.iadd, 1) := dk_96 hN_cL_law rfl rfl
theorem dL_law_262 : decode cL_law 262 = .ok (.iaload, 1) := dk_46 hN_cL_law rfl rfl
theorem dL_law_263 : decode cL_law 263 = .ok (.aload_n 0, 1) := dk_42 hN_cL_law rfl rfl
theorem dL_law_264 : decode cL_law 264 = .ok (.iload 4, 2) := dk_21 hN_cL_law rfl rfl rfl
theorem dL_law_266 : decode cL_law 266 = .ok (.iconst 2, 1) := dk_5 hN_cL_law rfl rfl
theorem dL_law_267 : decode cL_law 267 = .ok (.iadd, 1) := dk_96 hN_cL_law rfl rfl
theorem dL_law_268 : decode cL_law 268 = .ok (.iaload, 1) := dk_46 hN_cL_law rfl rfl
theorem dL_law_269 : decode cL_law 269 = .ok (.aload_n 0, 1) := dk_42 hN_cL_law rfl rfl
theorem dL_law_270 : decode cL_law 270 = .ok (.iload 4, 2) := dk_21 hN_cL_law rfl rfl rfl
theorem dL_law_272 : decode cL_law 272 = .ok (.iconst 3, 1) := dk_6 hN_cL_law rfl rfl
theorem dL_law_273 : decode cL_law 273 = .ok (.iadd, 1) := dk_96 hN_cL_law rfl rfl
theorem dL_law_274 : decode cL_law 274 = .ok (.iaload, 1) := dk_46 hN_cL_law rfl rfl
theorem dL_law_275 : decode cL_law 275 = .ok (.aload_n 0, 1) := dk_42 hN_cL_law rfl rfl
theorem dL_law_276 : decode cL_law 276 = .ok (.iload 4, 2) := dk_21 hN_cL_law rfl rfl rfl
theorem dL_law_278 : decode cL_law 278 = .ok (.iconst 4, 1) := dk_7 hN_cL_law rfl rfl
theorem dL_law_279 : decode cL_law 279 = .ok (.iadd, 1) := dk_96 hN_cL_law rfl rfl
theorem dL_law_280 : decode cL_law 280 = .ok (.iaload, 1) := dk_46 hN_cL_law rfl rfl
theorem dL_law_281 : decode cL_law 281 = .ok (.aload_n 0, 1) := dk_42 hN_cL_law rfl rfl
theorem dL_law_282 : decode cL_law 282 = .ok (.iload 4, 2) := dk_21 hN_cL_law rfl rfl rfl
theorem dL_law_284 : decode cL_law 284 = .ok (.iconst 5, 1) := dk_8 hN_cL_law rfl rfl
theorem dL_law_285 : decode cL_law 285 = .ok (.iadd, 1) := dk_96 hN_cL_law rfl rfl
theorem dL_law_286 : decode cL_law 286 = .ok (.iaload, 1) := dk_46 hN_cL_law rfl rfl
theorem dL_law_287 : decode cL_law 287 = .ok (.invokevirtual 19, 3) := dk_182 hN_cL_law rfl rfl rfl
theorem dL_law_290 : decode cL_law 290 = .ok (.pop, 1) := dk_87 hN_cL_law rfl rfl
theorem dL_law_291 : decode cL_law 291 = .ok (.aload_n 2, 1) := dk_44 hN_cL_law rfl rfl
theorem dL_law_292 : decode cL_law 292 = .ok (.aload_n 0, 1) := dk_42 hN_cL_law rfl rfl
theorem dL_law_293 : decode cL_law 293 = .ok (.iload 4, 2) := dk_21 hN_cL_law rfl rfl rfl
theorem dL_law_295 : decode cL_law 295 = .ok (.iconst 1, 1) := dk_4 hN_cL_law rfl rfl
theorem dL_law_296 : decode cL_law 296 = .ok (.iadd, 1) := dk_96 hN_cL_law rfl rfl
theorem dL_law_297 : decode cL_law 297 = .ok (.iaload, 1) := dk_46 hN_cL_law rfl rfl
theorem dL_law_298 : decode cL_law 298 = .ok (.aload_n 0, 1) := dk_42 hN_cL_law rfl rfl
theorem dL_law_299 : decode cL_law 299 = .ok (.iload 4, 2) := dk_21 hN_cL_law rfl rfl rfl
theorem dL_law_301 : decode cL_law 301 = .ok (.iconst 2, 1) := dk_5 hN_cL_law rfl rfl
theorem dL_law_302 : decode cL_law 302 = .ok (.iadd, 1) := dk_96 hN_cL_law rfl rfl
theorem dL_law_303 : decode cL_law 303 = .ok (.iaload, 1) := dk_46 hN_cL_law rfl rfl
theorem dL_law_304 : decode cL_law 304 = .ok (.aload_n 0, 1) := dk_42 hN_cL_law rfl rfl
theorem dL_law_305 : decode cL_law 305 = .ok (.iload 4, 2) := dk_21 hN_cL_law rfl rfl rfl
theorem dL_law_307 : decode cL_law 307 = .ok (.iconst 3, 1) := dk_6 hN_cL_law rfl rfl
theorem dL_law_308 : decode cL_law 308 = .ok (.iadd, 1) := dk_96 hN_cL_law rfl rfl
theorem dL_law_309 : decode cL_law 309 = .ok (.iaload, 1) := dk_46 hN_cL_law rfl rfl
theorem dL_law_310 : decode cL_law 310 = .ok (.aload_n 0, 1) := dk_42 hN_cL_law rfl rfl
theorem dL_law_311 : decode cL_law 311 = .ok (.iload 4, 2) := dk_21 hN_cL_law rfl rfl rfl
theorem dL_law_313 : decode cL_law 313 = .ok (.iconst 4, 1) := dk_7 hN_cL_law rfl rfl
theorem dL_law_314 : decode cL_law 314 = .ok (.iadd, 1) := dk_96 hN_cL_law rfl rfl
theorem dL_law_315 : decode cL_law 315 = .ok (.iaload, 1) := dk_46 hN_cL_law rfl rfl
theorem dL_law_316 : decode cL_law 316 = .ok (.aload_n 0, 1) := dk_42 hN_cL_law rfl rfl
theorem dL_law_317 : decode cL_law 317 = .ok (.iload 4, 2) := dk_21 hN_cL_law rfl rfl rfl
theorem dL_law_319 : decode cL_law 319 = .ok (.iconst 5, 1) := dk_8 hN_cL_law rfl rfl
theorem dL_law_320 : decode cL_law 320 = .ok (.iadd, 1) := dk_96 hN_cL_law rfl rfl
theorem dL_law_321 : decode cL_law 321 = .ok (.iaload, 1) := dk_46 hN_cL_law rfl rfl
theorem dL_law_322 : decode cL_law 322 = .ok (.invokevirtual 23, 3) := dk_182 hN_cL_law rfl rfl rfl
theorem dL_law_325 : decode cL_law 325 = .ok (.pop, 1) := dk_87 hN_cL_law rfl rfl
theorem dL_law_326 : decode cL_law 326 = .ok (.goto 1257, 3) := dk_167 hN_cL_law rfl rfl rfl
theorem dL_law_329 : decode cL_law 329 = .ok (.aload_n 1, 1) := dk_43 hN_cL_law rfl rfl
theorem dL_law_330 : decode cL_law 330 = .ok (.aload_n 0, 1) := dk_42 hN_cL_law rfl rfl
theorem dL_law_331 : decode cL_law 331 = .ok (.iload 4, 2) := dk_21 hN_cL_law rfl rfl rfl
theorem dL_law_333 : decode cL_law 333 = .ok (.iconst 1, 1) := dk_4 hN_cL_law rfl rfl
theorem dL_law_334 : decode cL_law 334 = .ok (.iadd, 1) := dk_96 hN_cL_law rfl rfl
theorem dL_law_335 : decode cL_law 335 = .ok (.iaload, 1) := dk_46 hN_cL_law rfl rfl
theorem dL_law_336 : decode cL_law 336 = .ok (.invokevirtual 24, 3) := dk_182 hN_cL_law rfl rfl rfl
theorem dL_law_339 : decode cL_law 339 = .ok (.pop, 1) := dk_87 hN_cL_law rfl rfl
theorem dL_law_340 : decode cL_law 340 = .ok (.aload_n 2, 1) := dk_44 hN_cL_law rfl rfl
theorem dL_law_341 : decode cL_law 341 = .ok (.aload_n 0, 1) := dk_42 hN_cL_law rfl rfl
theorem dL_law_342 : decode cL_law 342 = .ok (.iload 4, 2) := dk_21 hN_cL_law rfl rfl rfl
theorem dL_law_344 : decode cL_law 344 = .ok (.iconst 1, 1) := dk_4 hN_cL_law rfl rfl
theorem dL_law_345 : decode cL_law 345 = .ok (.iadd, 1) := dk_96 hN_cL_law rfl rfl
theorem dL_law_346 : decode cL_law 346 = .ok (.iaload, 1) := dk_46 hN_cL_law rfl rfl
theorem dL_law_347 : decode cL_law 347 = .ok (.invokevirtual 27, 3) := dk_182 hN_cL_law rfl rfl rfl
theorem dL_law_350 : decode cL_law 350 = .ok (.pop, 1) := dk_87 hN_cL_law rfl rfl
theorem dL_law_351 : decode cL_law 351 = .ok (.goto 1232, 3) := dk_167 hN_cL_law rfl rfl rfl
theorem dL_law_354 : decode cL_law 354 = .ok (.aload_n 1, 1) := dk_43 hN_cL_law rfl rfl
theorem dL_law_355 : decode cL_law 355 = .ok (.invokevirtual 28, 3) := dk_182 hN_cL_law rfl rfl rfl
theorem dL_law_358 : decode cL_law 358 = .ok (.pop, 1) := dk_87 hN_cL_law rfl rfl
theorem dL_law_359 : decode cL_law 359 = .ok (.aload_n 2, 1) := dk_44 hN_cL_law rfl rfl
theorem dL_law_360 : decode cL_law 360 = .ok (.invokevirtual 32, 3) := dk_182 hN_cL_law rfl rfl rfl
theorem dL_law_363 : decode cL_law 363 = .ok (.pop, 1) := dk_87 hN_cL_law rfl rfl
theorem dL_law_364 : decode cL_law 364 = .ok (.goto 1219, 3) := dk_167 hN_cL_law rfl rfl rfl
theorem dL_law_367 : decode cL_law 367 = .ok (.aload_n 1, 1) := dk_43 hN_cL_law rfl rfl
theorem dL_law_368 : decode cL_law 368 = .ok (.invokevirtual 33, 3) := dk_182 hN_cL_law rfl rfl rfl
theorem dL_law_371 : decode cL_law 371 = .ok (.pop, 1) := dk_87 hN_cL_law rfl rfl
theorem dL_law_372 : decode cL_law 372 = .ok (.aload_n 2, 1) := dk_44 hN_cL_law rfl rfl
theorem dL_law_373 : decode cL_law 373 = .ok (.invokevirtual 36, 3) := dk_182 hN_cL_law rfl rfl rfl
theorem dL_law_376 : decode cL_law 376 = .ok (.pop, 1) := dk_87 hN_cL_law rfl rfl
theorem dL_law_377 : decode cL_law 377 = .ok (.goto 1206, 3) := dk_167 hN_cL_law rfl rfl rfl
theorem dL_law_380 : decode cL_law 380 = .ok (.aload_n 1, 1) := dk_43 hN_cL_law rfl rfl
theorem dL_law_381 : decode cL_law 381 = .ok (.aload_n 0, 1) := dk_42 hN_cL_law rfl rfl
theorem dL_law_382 : decode cL_law 382 = .ok (.iload 4, 2) := dk_21 hN_cL_law rfl rfl rfl
theorem dL_law_384 : decode cL_law 384 = .ok (.iconst 1, 1) := dk_4 hN_cL_law rfl rfl
theorem dL_law_385 : decode cL_law 385 = .ok (.iadd, 1) := dk_96 hN_cL_law rfl rfl
theorem dL_law_386 : decode cL_law 386 = .ok (.iaload, 1) := dk_46 hN_cL_law rfl rfl
theorem dL_law_387 : decode cL_law 387 = .ok (.ifCond .eq 7, 3) := dk_153 hN_cL_law rfl rfl rfl
theorem dL_law_394 : decode cL_law 394 = .ok (.iconst 0, 1) := dk_3 hN_cL_law rfl rfl
theorem dL_law_390 : decode cL_law 390 = .ok (.iconst 1, 1) := dk_4 hN_cL_law rfl rfl
theorem dL_law_391 : decode cL_law 391 = .ok (.goto 4, 3) := dk_167 hN_cL_law rfl rfl rfl
theorem dL_law_395 : decode cL_law 395 = .ok (.invokevirtual 37, 3) := dk_182 hN_cL_law rfl rfl rfl
theorem dL_law_398 : decode cL_law 398 = .ok (.pop, 1) := dk_87 hN_cL_law rfl rfl
theorem dL_law_399 : decode cL_law 399 = .ok (.aload_n 2, 1) := dk_44 hN_cL_law rfl rfl
theorem dL_law_400 : decode cL_law 400 = .ok (.aload_n 0, 1) := dk_42 hN_cL_law rfl rfl
theorem dL_law_401 : decode cL_law 401 = .ok (.iload 4, 2) := dk_21 hN_cL_law rfl rfl rfl
theorem dL_law_403 : decode cL_law 403 = .ok (.iconst 1, 1) := dk_4 hN_cL_law rfl rfl
theorem dL_law_404 : decode cL_law 404 = .ok (.iadd, 1) := dk_96 hN_cL_law rfl rfl
theorem dL_law_405 : decode cL_law 405 = .ok (.iaload, 1) := dk_46 hN_cL_law rfl rfl
theorem dL_law_406 : decode cL_law 406 = .ok (.ifCond .eq 7, 3) := dk_153 hN_cL_law rfl rfl rfl
theorem dL_law_413 : decode cL_law 413 = .ok (.iconst 0, 1) := dk_3 hN_cL_law rfl rfl
theorem dL_law_409 : decode cL_law 409 = .ok (.iconst 1, 1) := dk_4 hN_cL_law rfl rfl
theorem dL_law_410 : decode cL_law 410 = .ok (.goto 4, 3) := dk_167 hN_cL_law rfl rfl rfl
theorem dL_law_414 : decode cL_law 414 = .ok (.invokevirtual 41, 3) := dk_182 hN_cL_law rfl rfl rfl
theorem dL_law_417 : decode cL_law 417 = .ok (.pop, 1) := dk_87 hN_cL_law rfl rfl
theorem dL_law_418 : decode cL_law 418 = .ok (.goto 1165, 3) := dk_167 hN_cL_law rfl rfl rfl
theorem dL_law_421 : decode cL_law 421 = .ok (.aload_n 1, 1) := dk_43 hN_cL_law rfl rfl
theorem dL_law_422 : decode cL_law 422 = .ok (.aload_n 0, 1) := dk_42 hN_cL_law rfl rfl
theorem dL_law_423 : decode cL_law 423 = .ok (.iload 4, 2) := dk_21 hN_cL_law rfl rfl rfl
theorem dL_law_425 : decode cL_law 425 = .ok (.iconst 1, 1) := dk_4 hN_cL_law rfl rfl
theorem dL_law_426 : decode cL_law 426 = .ok (.iadd, 1) := dk_96 hN_cL_law rfl rfl
theorem dL_law_427 : decode cL_law 427 = .ok (.iaload, 1) := dk_46 hN_cL_law rfl rfl
theorem dL_law_428 : decode cL_law 428 = .ok (.aload_n 0, 1) := dk_42 hN_cL_law rfl rfl
theorem dL_law_429 : decode cL_law 429 = .ok (.iload 4, 2) := dk_21 hN_cL_law rfl rfl rfl
theorem dL_law_431 : decode cL_law 431 = .ok (.iconst 2, 1) := dk_5 hN_cL_law rfl rfl
theorem dL_law_432 : decode cL_law 432 = .ok (.iadd, 1) := dk_96 hN_cL_law rfl rfl
theorem dL_law_433 : decode cL_law 433 = .ok (.iaload, 1) := dk_46 hN_cL_law rfl rfl
theorem dL_law_434 : decode cL_law 434 = .ok (.aload_n 0, 1) := dk_42 hN_cL_law rfl rfl
theorem dL_law_435 : decode cL_law 435 = .ok (.iload 4, 2) := dk_21 hN_cL_law rfl rfl rfl
theorem dL_law_437 : decode cL_law 437 = .ok (.iconst 3, 1) := dk_6 hN_cL_law rfl rfl
theorem dL_law_438 : decode cL_law 438 = .ok (.iadd, 1) := dk_96 hN_cL_law rfl rfl
theorem dL_law_439 : decode cL_law 439 = .ok (.iaload, 1) := dk_46 hN_cL_law rfl rfl
theorem dL_law_440 : decode cL_law 440 = .ok (.aload_n 0, 1) := dk_42 hN_cL_law rfl rfl
theorem dL_law_441 : decode cL_law 441 = .ok (.iload 4, 2) := dk_21 hN_cL_law rfl rfl rfl
theorem dL_law_443 : decode cL_law 443 = .ok (.iconst 4, 1) := dk_7 hN_cL_law rfl rfl
theorem dL_law_444 : decode cL_law 444 = .ok (.iadd, 1) := dk_96 hN_cL_law rfl rfl
theorem dL_law_445 : decode cL_law 445 = .ok (.iaload, 1) := dk_46 hN_cL_law rfl rfl
theorem dL_law_446 : decode cL_law 446 = .ok (.aload_n 0, 1) := dk_42 hN_cL_law rfl rfl
theorem dL_law_447 : decode cL_law 447 = .ok (.iload 4, 2) := dk_21 hN_cL_law rfl rfl rfl
theorem dL_law_449 : decode cL_law 449 = .ok (.iconst 5, 1) := dk_8 hN_cL_law rfl rfl
theorem dL_law_450 : decode cL_law 450 = .ok (.iadd, 1) := dk_96 hN_cL_law rfl rfl
theorem dL_law_451 : decode cL_law 451 = .ok (.iaload, 1) := dk_46 hN_cL_law rfl rfl
theorem dL_law_452 : decode cL_law 452 = .ok (.ifCond .eq 7, 3) := dk_153 hN_cL_law rfl rfl rfl
theorem dL_law_459 : decode cL_law 459 = .ok (.iconst 0, 1) := dk_3 hN_cL_law rfl rfl
theorem dL_law_455 : decode cL_law 455 = .ok (.iconst 1, 1) := dk_4 hN_cL_law rfl rfl
theorem dL_law_456 : decode cL_law 456 = .ok (.goto 4, 3) := dk_167 hN_cL_law rfl rfl rfl
theorem dL_law_460 : decode cL_law 460 = .ok (.aload_n 0, 1) := dk_42 hN_cL_law rfl rfl
theorem dL_law_461 : decode cL_law 461 = .ok (.iload 4, 2) := dk_21 hN_cL_law rfl rfl rfl
theorem dL_law_463 : decode cL_law 463 = .ok (.bipush 6, 2) := dk_16 hN_cL_law rfl rfl rfl
theorem dL_law_465 : decode cL_law 465 = .ok (.iadd, 1) := dk_96 hN_cL_law rfl rfl
theorem dL_law_466 : decode cL_law 466 = .ok (.iaload, 1) := dk_46 hN_cL_law rfl rfl
theorem dL_law_467 : decode cL_law 467 = .ok (.ifCond .eq 7, 3) := dk_153 hN_cL_law rfl rfl rfl
theorem dL_law_474 : decode cL_law 474 = .ok (.iconst 0, 1) := dk_3 hN_cL_law rfl rfl
theorem dL_law_470 : decode cL_law 470 = .ok (.iconst 1, 1) := dk_4 hN_cL_law rfl rfl
theorem dL_law_471 : decode cL_law 471 = .ok (.goto 4, 3) := dk_167 hN_cL_law rfl rfl rfl
theorem dL_law_475 : decode cL_law 475 = .ok (.invokevirtual 42, 3) := dk_182 hN_cL_law rfl rfl rfl
theorem dL_law_478 : decode cL_law 478 = .ok (.pop, 1) := dk_87 hN_cL_law rfl rfl
theorem dL_law_479 : decode cL_law 479 = .ok (.aload_n 2, 1) := dk_44 hN_cL_law rfl rfl
theorem dL_law_480 : decode cL_law 480 = .ok (.aload_n 0, 1) := dk_42 hN_cL_law rfl rfl
theorem dL_law_481 : decode cL_law 481 = .ok (.iload 4, 2) := dk_21 hN_cL_law rfl rfl rfl
theorem dL_law_483 : decode cL_law 483 = .ok (.iconst 1, 1) := dk_4 hN_cL_law rfl rfl
theorem dL_law_484 : decode cL_law 484 = .ok (.iadd, 1) := dk_96 hN_cL_law rfl rfl
theorem dL_law_485 : decode cL_law 485 = .ok (.iaload, 1) := dk_46 hN_cL_law rfl rfl
theorem dL_law_486 : decode cL_law 486 = .ok (.aload_n 0, 1) := dk_42 hN_cL_law rfl rfl
theorem dL_law_487 : decode cL_law 487 = .ok (.iload 4, 2) := dk_21 hN_cL_law rfl rfl rfl
theorem dL_law_489 : decode cL_law 489 = .ok (.iconst 2, 1) := dk_5 hN_cL_law rfl rfl
theorem dL_law_490 : decode cL_law 490 = .ok (.iadd, 1) := dk_96 hN_cL_law rfl rfl
theorem dL_law_491 : decode cL_law 491 = .ok (.iaload, 1) := dk_46 hN_cL_law rfl rfl
theorem dL_law_492 : decode cL_law 492 = .ok (.aload_n 0, 1) := dk_42 hN_cL_law rfl rfl
theorem dL_law_493 : decode cL_law 493 = .ok (.iload 4, 2) := dk_21 hN_cL_law rfl rfl rfl
theorem dL_law_495 : decode cL_law 495 = .ok (.iconst 3, 1) := dk_6 hN_cL_law rfl rfl
theorem dL_law_496 : decode cL_law 496 = .ok (.iadd, 1) := dk_96 hN_cL_law rfl rfl
theorem dL_law_497 : decode cL_law 497 = .ok (.iaload, 1) := dk_46 hN_cL_law rfl rfl
theorem dL_law_498 : decode cL_law 498 = .ok (.aload_n 0, 1) := dk_42 hN_cL_law rfl rfl
theorem dL_law_499 : decode cL_law 499 = .ok (.iload 4, 2) := dk_21 hN_cL_law rfl rfl rfl
theorem dL_law_501 : decode cL_law 501 = .ok (.iconst 4, 1) := dk_7 hN_cL_law rfl rfl
theorem dL_law_502 : decode cL_law 502 = .ok (.iadd, 1) := dk_96 hN_cL_law rfl rfl
theorem dL_law_503 : decode cL_law 503 = .ok (.iaload, 1) := dk_46 hN_cL_law rfl rfl
theorem dL_law_504 : decode cL_law 504 = .ok (.aload_n 0, 1) := dk_42 hN_cL_law rfl rfl
theorem dL_law_505 : decode cL_law 505 = .ok (.iload 4, 2) := dk_21 hN_cL_law rfl rfl rfl
theorem dL_law_507 : decode cL_law 507 = .ok (.iconst 5, 1) := dk_8 hN_cL_law rfl rfl
theorem dL_law_508 : decode cL_law 508 = .ok (.iadd, 1) := dk_96 hN_cL_law rfl rfl
theorem dL_law_509 : decode cL_law 509 = .ok (.iaload, 1) := dk_46 hN_cL_law rfl rfl
theorem dL_law_510 : decode cL_law 510 = .ok (.ifCond .eq 7, 3) := dk_153 hN_cL_law rfl rfl rfl
theorem dL_law_517 : decode cL_law 517 = .ok (.iconst 0, 1) := dk_3 hN_cL_law rfl rfl
theorem dL_law_513 : decode cL_law 513 = .ok (.iconst 1, 1) := dk_4 hN_cL_law rfl rfl
theorem dL_law_514 : decode cL_law 514 = .ok (.goto 4, 3) := dk_167 hN_cL_law rfl rfl rfl
theorem dL_law_518 : decode cL_law 518 = .ok (.aload_n 0, 1) := dk_42 hN_cL_law rfl rfl
theorem dL_law_519 : decode cL_law 519 = .ok (.iload 4, 2) := dk_21 hN_cL_law rfl rfl rfl
theorem dL_law_521 : decode cL_law 521 = .ok (.bipush 6, 2) := dk_16 hN_cL_law rfl rfl rfl
theorem dL_law_523 : decode cL_law 523 = .ok (.iadd, 1) := dk_96 hN_cL_law rfl rfl
theorem dL_law_524 : decode cL_law 524 = .ok (.iaload, 1) := dk_46 hN_cL_law rfl rfl
theorem dL_law_525 : decode cL_law 525 = .ok (.ifCond .eq 7, 3) := dk_153 hN_cL_law rfl rfl rfl
theorem dL_law_532 : decode cL_law 532 = .ok (.iconst 0, 1) := dk_3 hN_cL_law rfl rfl
theorem dL_law_528 : decode cL_law 528 = .ok (.iconst 1, 1) := dk_4 hN_cL_law rfl rfl
theorem dL_law_529 : decode cL_law 529 = .ok (.goto 4, 3) := dk_167 hN_cL_law rfl rfl rfl
theorem dL_law_533 : decode cL_law 533 = .ok (.invokevirtual 46, 3) := dk_182 hN_cL_law rfl rfl rfl
theorem dL_law_536 : decode cL_law 536 = .ok (.pop, 1) := dk_87 hN_cL_law rfl rfl
theorem dL_law_537 : decode cL_law 537 = .ok (.goto 1046, 3) := dk_167 hN_cL_law rfl rfl rfl
theorem dL_law_540 : decode cL_law 540 = .ok (.aload_n 1, 1) := dk_43 hN_cL_law rfl rfl
theorem dL_law_541 : decode cL_law 541 = .ok (.aload_n 0, 1) := dk_42 hN_cL_law rfl rfl
theorem dL_law_542 : decode cL_law 542 = .ok (.iload 4, 2) := dk_21 hN_cL_law rfl rfl rfl
theorem dL_law_544 : decode cL_law 544 = .ok (.iconst 1, 1) := dk_4 hN_cL_law rfl rfl
theorem dL_law_545 : decode cL_law 545 = .ok (.iadd, 1) := dk_96 hN_cL_law rfl rfl
theorem dL_law_546 : decode cL_law 546 = .ok (.iaload, 1) := dk_46 hN_cL_law rfl rfl
theorem dL_law_547 : decode cL_law 547 = .ok (.aload_n 0, 1) := dk_42 hN_cL_law rfl rfl
theorem dL_law_548 : decode cL_law 548 = .ok (.iload 4, 2) := dk_21 hN_cL_law rfl rfl rfl
theorem dL_law_550 : decode cL_law 550 = .ok (.iconst 2, 1) := dk_5 hN_cL_law rfl rfl
theorem dL_law_551 : decode cL_law 551 = .ok (.iadd, 1) := dk_96 hN_cL_law rfl rfl
theorem dL_law_552 : decode cL_law 552 = .ok (.iaload, 1) := dk_46 hN_cL_law rfl rfl
theorem dL_law_553 : decode cL_law 553 = .ok (.invokevirtual 47, 3) := dk_182 hN_cL_law rfl rfl rfl
theorem dL_law_556 : decode cL_law 556 = .ok (.pop, 1) := dk_87 hN_cL_law rfl rfl
theorem dL_law_557 : decode cL_law 557 = .ok (.aload_n 2, 1) := dk_44 hN_cL_law rfl rfl
theorem dL_law_558 : decode cL_law 558 = .ok (.aload_n 0, 1) := dk_42 hN_cL_law rfl rfl
theorem dL_law_559 : decode cL_law 559 = .ok (.iload 4, 2) := dk_21 hN_cL_law rfl rfl rfl
theorem dL_law_561 : decode cL_law 561 = .ok (.iconst 1, 1) := dk_4 hN_cL_law rfl rfl
theorem dL_law_562 : decode cL_law 562 = .ok (.iadd, 1) := dk_96 hN_cL_law rfl rfl
theorem dL_law_563 : decode cL_law 563 = .ok (.iaload, 1) := dk_46 hN_cL_law rfl rfl
theorem dL_law_564 : decode cL_law 564 = .ok (.aload_n 0, 1) := dk_42 hN_cL_law rfl rfl
theorem dL_law_565 : decode cL_law 565 = .ok (.iload 4, 2) := dk_21 hN_cL_law rfl rfl rfl
theorem dL_law_567 : decode cL_law 567 = .ok (.iconst 2, 1) := dk_5 hN_cL_law rfl rfl
theorem dL_law_568 : decode cL_law 568 = .ok (.iadd, 1) := dk_96 hN_cL_law rfl rfl
theorem dL_law_569 : decode cL_law 569 = .ok (.iaload, 1) := dk_46 hN_cL_law rfl rfl
theorem dL_law_570 : decode cL_law 570 = .ok (.invokevirtual 51, 3) := dk_182 hN_cL_law rfl rfl rfl
theorem dL_law_573 : decode cL_law 573 = .ok (.pop, 1) := dk_87 hN_cL_law rfl rfl
theorem dL_law_574 : decode cL_law 574 = .ok (.goto 1009, 3) := dk_167 hN_cL_law rfl rfl rfl
theorem dL_law_577 : decode cL_law 577 = .ok (.aload_n 1, 1) := dk_43 hN_cL_law rfl rfl
theorem dL_law_578 : decode cL_law 578 = .ok (.invokevirtual 52, 3) := dk_182 hN_cL_law rfl rfl rfl
theorem dL_law_581 : decode cL_law 581 = .ok (.pop, 1) := dk_87 hN_cL_law rfl rfl
theorem dL_law_582 : decode cL_law 582 = .ok (.aload_n 2, 1) := dk_44 hN_cL_law rfl rfl
theorem dL_law_583 : decode cL_law 583 = .ok (.invokevirtual 55, 3) := dk_182 hN_cL_law rfl rfl rfl
theorem dL_law_586 : decode cL_law 586 = .ok (.pop, 1) := dk_87 hN_cL_law rfl rfl
theorem dL_law_587 : decode cL_law 587 = .ok (.goto 996, 3) := dk_167 hN_cL_law rfl rfl rfl
theorem dL_law_590 : decode cL_law 590 = .ok (.aload_n 1, 1) := dk_43 hN_cL_law rfl rfl
theorem dL_law_591 : decode cL_law 591 = .ok (.invokevirtual 56, 3) := dk_182 hN_cL_law rfl rfl rfl
theorem dL_law_594 : decode cL_law 594 = .ok (.pop, 1) := dk_87 hN_cL_law rfl rfl
theorem dL_law_595 : decode cL_law 595 = .ok (.aload_n 2, 1) := dk_44 hN_cL_law rfl rfl
theorem dL_law_596 : decode cL_law 596 = .ok (.invokevirtual 59, 3) := dk_182 hN_cL_law rfl rfl rfl
theorem dL_law_599 : decode cL_law 599 = .ok (.pop, 1) := dk_87 hN_cL_law rfl rfl
theorem dL_law_600 : decode cL_law 600 = .ok (.goto 983, 3) := dk_167 hN_cL_law rfl rfl rfl
theorem dL_law_603 : decode cL_law 603 = .ok (.aload_n 1, 1) := dk_43 hN_cL_law rfl rfl
theorem dL_law_604 : decode cL_law 604 = .ok (.aload_n 0, 1) := dk_42 hN_cL_law rfl rfl
theorem dL_law_605 : decode cL_law 605 = .ok (.iload 4, 2) := dk_21 hN_cL_law rfl rfl rfl
theorem dL_law_607 : decode cL_law 607 = .ok (.iconst 1, 1) := dk_4 hN_cL_law rfl rfl
theorem dL_law_608 : decode cL_law 608 = .ok (.iadd, 1) := dk_96 hN_cL_law rfl rfl
theorem dL_law_609 : decode cL_law 609 = .ok (.iaload, 1) := dk_46 hN_cL_law rfl rfl
theorem dL_law_610 : decode cL_law 610 = .ok (.invokevirtual 60, 3) := dk_182 hN_cL_law rfl rfl rfl
theorem dL_law_613 : decode cL_law 613 = .ok (.pop, 1) := dk_87 hN_cL_law rfl rfl
theorem dL_law_614 : decode cL_law 614 = .ok (.aload_n 2, 1) := dk_44 hN_cL_law rfl rfl
theorem dL_law_615 : decode cL_law 615 = .ok (.aload_n 0, 1) := dk_42 hN_cL_law rfl rfl
theorem dL_law_616 : decode cL_law 616 = .ok (.iload 4, 2) := dk_21 hN_cL_law rfl rfl rfl
theorem dL_law_618 : decode cL_law 618 = .ok (.iconst 1, 1) := dk_4 hN_cL_law rfl rfl
theorem dL_law_619 : decode cL_law 619 = .ok (.iadd, 1) := dk_96 hN_cL_law rfl rfl
theorem dL_law_620 : decode cL_law 620 = .ok (.iaload, 1) := dk_46 hN_cL_law rfl rfl
theorem dL_law_621 : decode cL_law 621 = .ok (.invokevirtual 63, 3) := dk_182 hN_cL_law rfl rfl rfl
theorem dL_law_624 : decode cL_law 624 = .ok (.pop, 1) := dk_87 hN_cL_law rfl rfl
theorem dL_law_625 : decode cL_law 625 = .ok (.goto 958, 3) := dk_167 hN_cL_law rfl rfl rfl
theorem dL_law_628 : decode cL_law 628 = .ok (.aload_n 1, 1) := dk_43 hN_cL_law rfl rfl
theorem dL_law_629 : decode cL_law 629 = .ok (.invokevirtual 64, 3) := dk_182 hN_cL_law rfl rfl rfl
theorem dL_law_632 : decode cL_law 632 = .ok (.pop, 1) := dk_87 hN_cL_law rfl rfl
theorem dL_law_633 : decode cL_law 633 = .ok (.aload_n 2, 1) := dk_44 hN_cL_law rfl rfl
theorem dL_law_634 : decode cL_law 634 = .ok (.invokevirtual 67, 3) := dk_182 hN_cL_law rfl rfl rfl
theorem dL_law_637 : decode cL_law 637 = .ok (.pop, 1) := dk_87 hN_cL_law rfl rfl
theorem dL_law_638 : decode cL_law 638 = .ok (.goto 945, 3) := dk_167 hN_cL_law rfl rfl rfl
theorem dL_law_641 : decode cL_law 641 = .ok (.aload_n 1, 1) := dk_43 hN_cL_law rfl rfl
theorem dL_law_642 : decode cL_law 642 = .ok (.aload_n 0, 1) := dk_42 hN_cL_law rfl rfl
theorem dL_law_643 : decode cL_law 643 = .ok (.iload 4, 2) := dk_21 hN_cL_law rfl rfl rfl
theorem dL_law_645 : decode cL_law 645 = .ok (.iconst 1, 1) := dk_4 hN_cL_law rfl rfl
theorem dL_law_646 : decode cL_law 646 = .ok (.iadd, 1) := dk_96 hN_cL_law rfl rfl
theorem dL_law_647 : decode cL_law 647 = .ok (.iaload, 1) := dk_46 hN_cL_law rfl rfl
theorem dL_law_648 : decode cL_law 648 = .ok (.invokevirtual 68, 3) := dk_182 hN_cL_law rfl rfl rfl
theorem dL_law_651 : decode cL_law 651 = .ok (.pop, 1) := dk_87 hN_cL_law rfl rfl
theorem dL_law_652 : decode cL_law 652 = .ok (.aload_n 2, 1) := dk_44 hN_cL_law rfl rfl
theorem dL_law_653 : decode cL_law 653 = .ok (.aload_n 0, 1) := dk_42 hN_cL_law rfl rfl
theorem dL_law_654 : decode cL_law 654 = .ok (.iload 4, 2) := dk_21 hN_cL_law rfl rfl rfl
theorem dL_law_656 : decode cL_law 656 = .ok (.iconst 1, 1) := dk_4 hN_cL_law rfl rfl
theorem dL_law_657 : decode cL_law 657 = .ok (.iadd, 1) := dk_96 hN_cL_law rfl rfl
theorem dL_law_658 : decode cL_law 658 = .ok (.iaload, 1) := dk_46 hN_cL_law rfl rfl
theorem dL_law_659 : decode cL_law 659 = .ok (.invokevirtual 71, 3) := dk_182 hN_cL_law rfl rfl rfl
theorem dL_law_662 : decode cL_law 662 = .ok (.pop, 1) := dk_87 hN_cL_law rfl rfl
theorem dL_law_663 : decode cL_law 663 = .ok (.goto 920, 3) := dk_167 hN_cL_law rfl rfl rfl
theorem dL_law_666 : decode cL_law 666 = .ok (.aload_n 1, 1) := dk_43 hN_cL_law rfl rfl
theorem dL_law_667 : decode cL_law 667 = .ok (.invokevirtual 72, 3) := dk_182 hN_cL_law rfl rfl rfl
theorem dL_law_670 : decode cL_law 670 = .ok (.pop, 1) := dk_87 hN_cL_law rfl rfl
theorem dL_law_671 : decode cL_law 671 = .ok (.aload_n 2, 1) := dk_44 hN_cL_law rfl rfl
theorem dL_law_672 : decode cL_law 672 = .ok (.invokevirtual 75, 3) := dk_182 hN_cL_law rfl rfl rfl
theorem dL_law_675 : decode cL_law 675 = .ok (.pop, 1) := dk_87 hN_cL_law rfl rfl
theorem dL_law_676 : decode cL_law 676 = .ok (.goto 907, 3) := dk_167 hN_cL_law rfl rfl rfl
theorem dL_law_679 : decode cL_law 679 = .ok (.aload_n 1, 1) := dk_43 hN_cL_law rfl rfl
theorem dL_law_680 : decode cL_law 680 = .ok (.aload_n 0, 1) := dk_42 hN_cL_law rfl rfl
theorem dL_law_681 : decode cL_law 681 = .ok (.iload 4, 2) := dk_21 hN_cL_law rfl rfl rfl
theorem dL_law_683 : decode cL_law 683 = .ok (.iconst 1, 1) := dk_4 hN_cL_law rfl rfl
theorem dL_law_684 : decode cL_law 684 = .ok (.iadd, 1) := dk_96 hN_cL_law rfl rfl
theorem dL_law_685 : decode cL_law 685 = .ok (.iaload, 1) := dk_46 hN_cL_law rfl rfl
theorem dL_law_686 : decode cL_law 686 = .ok (.invokevirtual 76, 3) := dk_182 hN_cL_law rfl rfl rfl
theorem dL_law_689 : decode cL_law 689 = .ok (.pop, 1) := dk_87 hN_cL_law rfl rfl
theorem dL_law_690 : decode cL_law 690 = .ok (.aload_n 2, 1) := dk_44 hN_cL_law rfl rfl
theorem dL_law_691 : decode cL_law 691 = .ok (.aload_n 0, 1) := dk_42 hN_cL_law rfl rfl
theorem dL_law_692 : decode cL_law 692 = .ok (.iload 4, 2) := dk_21 hN_cL_law rfl rfl rfl
theorem dL_law_694 : decode cL_law 694 = .ok (.iconst 1, 1) := dk_4 hN_cL_law rfl rfl
theorem dL_law_695 : decode cL_law 695 = .ok (.iadd, 1) := dk_96 hN_cL_law rfl rfl
theorem dL_law_696 : decode cL_law 696 = .ok (.iaload, 1) := dk_46 hN_cL_law rfl rfl
theorem dL_law_697 : decode cL_law 697 = .ok (.invokevirtual 79, 3) := dk_182 hN_cL_law rfl rfl rfl
theorem dL_law_700 : decode cL_law 700 = .ok (.pop, 1) := dk_87 hN_cL_law rfl rfl
theorem dL_law_701 : decode cL_law 701 = .ok (.goto 882, 3) := dk_167 hN_cL_law rfl rfl rfl
theorem dL_law_704 : decode cL_law 704 = .ok (.aload_n 1, 1) := dk_43 hN_cL_law rfl rfl
theorem dL_law_705 : decode cL_law 705 = .ok (.aload_n 0, 1) := dk_42 hN_cL_law rfl rfl
theorem dL_law_706 : decode cL_law 706 = .ok (.iload 4, 2) := dk_21 hN_cL_law rfl rfl rfl
theorem dL_law_708 : decode cL_law 708 = .ok (.iconst 1, 1) := dk_4 hN_cL_law rfl rfl
theorem dL_law_709 : decode cL_law 709 = .ok (.iadd, 1) := dk_96 hN_cL_law rfl rfl
theorem dL_law_710 : decode cL_law 710 = .ok (.iaload, 1) := dk_46 hN_cL_law rfl rfl
theorem dL_law_711 : decode cL_law 711 = .ok (.invokevirtual 80, 3) := dk_182 hN_cL_law rfl rfl rfl
theorem dL_law_714 : decode cL_law 714 = .ok (.pop, 1) := dk_87 hN_cL_law rfl rfl
theorem dL_law_715 : decode cL_law 715 = .ok (.aload_n 2, 1) := dk_44 hN_cL_law rfl rfl
theorem dL_law_716 : decode cL_law 716 = .ok (.aload_n 0, 1) := dk_42 hN_cL_law rfl rfl
theorem dL_law_717 : decode cL_law 717 = .ok (.iload 4, 2) := dk_21 hN_cL_law rfl rfl rfl
theorem dL_law_719 : decode cL_law 719 = .ok (.iconst 1, 1) := dk_4 hN_cL_law rfl rfl
theorem dL_law_720 : decode cL_law 720 = .ok (.iadd, 1) := dk_96 hN_cL_law rfl rfl
theorem dL_law_721 : decode cL_law 721 = .ok (.iaload, 1) := dk_46 hN_cL_law rfl rfl
theorem dL_law_722 : decode cL_law 722 = .ok (.invokevirtual 83, 3) := dk_182 hN_cL_law rfl rfl rfl
theorem dL_law_725 : decode cL_law 725 = .ok (.pop, 1) := dk_87 hN_cL_law rfl rfl
theorem dL_law_726 : decode cL_law 726 = .ok (.goto 857, 3) := dk_167 hN_cL_law rfl rfl rfl
theorem dL_law_729 : decode cL_law 729 = .ok (.aload_n 1, 1) := dk_43 hN_cL_law rfl rfl
theorem dL_law_730 : decode cL_law 730 = .ok (.invokevirtual 84, 3) := dk_182 hN_cL_law rfl rfl rfl
theorem dL_law_733 : decode cL_law 733 = .ok (.aload_n 2, 1) := dk_44 hN_cL_law rfl rfl
theorem dL_law_734 : decode cL_law 734 = .ok (.invokevirtual 87, 3) := dk_182 hN_cL_law rfl rfl rfl
theorem dL_law_737 : decode cL_law 737 = .ok (.if_icmp .eq 846, 3) := dk_159 hN_cL_law rfl rfl rfl
theorem dL_law_742 : decode cL_law 742 = .ok (.aload_n 1, 1) := dk_43 hN_cL_law rfl rfl
theorem dL_law_743 : decode cL_law 743 = .ok (.aload_n 0, 1) := dk_42 hN_cL_law rfl rfl
theorem dL_law_744 : decode cL_law 744 = .ok (.iload 4, 2) := dk_21 hN_cL_law rfl rfl rfl
theorem dL_law_746 : decode cL_law 746 = .ok (.iconst 1, 1) := dk_4 hN_cL_law rfl rfl
theorem dL_law_747 : decode cL_law 747 = .ok (.iadd, 1) := dk_96 hN_cL_law rfl rfl
theorem dL_law_748 : decode cL_law 748 = .ok (.iaload, 1) := dk_46 hN_cL_law rfl rfl
theorem dL_law_749 : decode cL_law 749 = .ok (.aload_n 0, 1) := dk_42 hN_cL_law rfl rfl
theorem dL_law_750 : decode cL_law 750 = .ok (.iload 4, 2) := dk_21 hN_cL_law rfl rfl rfl
theorem dL_law_752 : decode cL_law 752 = .ok (.iconst 2, 1) := dk_5 hN_cL_law rfl rfl
theorem dL_law_753 : decode cL_law 753 = .ok (.iadd, 1) := dk_96 hN_cL_law rfl rfl
theorem dL_law_754 : decode cL_law 754 = .ok (.iaload, 1) := dk_46 hN_cL_law rfl rfl
theorem dL_law_755 : decode cL_law 755 = .ok (.aload_n 0, 1) := dk_42 hN_cL_law rfl rfl
theorem dL_law_756 : decode cL_law 756 = .ok (.iload 4, 2) := dk_21 hN_cL_law rfl rfl rfl
theorem dL_law_758 : decode cL_law 758 = .ok (.iconst 3, 1) := dk_6 hN_cL_law rfl rfl
theorem dL_law_759 : decode cL_law 759 = .ok (.iadd, 1) := dk_96 hN_cL_law rfl rfl
theorem dL_law_760 : decode cL_law 760 = .ok (.iaload, 1) := dk_46 hN_cL_law rfl rfl
theorem dL_law_761 : decode cL_law 761 = .ok (.invokevirtual 88, 3) := dk_182 hN_cL_law rfl rfl rfl
theorem dL_law_764 : decode cL_law 764 = .ok (.pop, 1) := dk_87 hN_cL_law rfl rfl
theorem dL_law_765 : decode cL_law 765 = .ok (.aload_n 2, 1) := dk_44 hN_cL_law rfl rfl
theorem dL_law_766 : decode cL_law 766 = .ok (.aload_n 0, 1) := dk_42 hN_cL_law rfl rfl
theorem dL_law_767 : decode cL_law 767 = .ok (.iload 4, 2) := dk_21 hN_cL_law rfl rfl rfl
theorem dL_law_769 : decode cL_law 769 = .ok (.iconst 1, 1) := dk_4 hN_cL_law rfl rfl
theorem dL_law_770 : decode cL_law 770 = .ok (.iadd, 1) := dk_96 hN_cL_law rfl rfl
theorem dL_law_771 : decode cL_law 771 = .ok (.iaload, 1) := dk_46 hN_cL_law rfl rfl
theorem dL_law_772 : decode cL_law 772 = .ok (.aload_n 0, 1) := dk_42 hN_cL_law rfl rfl
theorem dL_law_773 : decode cL_law 773 = .ok (.iload 4, 2) := dk_21 hN_cL_law rfl rfl rfl
theorem dL_law_775 : decode cL_law 775 = .ok (.iconst 2, 1) := dk_5 hN_cL_law rfl rfl
theorem dL_law_776 : decode cL_law 776 = .ok (.iadd, 1) := dk_96 hN_cL_law rfl rfl
theorem dL_law_777 : decode cL_law 777 = .ok (.iaload, 1) := dk_46 hN_cL_law rfl rfl
theorem dL_law_778 : decode cL_law 778 = .ok (.aload_n 0, 1) := dk_42 hN_cL_law rfl rfl
theorem dL_law_779 : decode cL_law 779 = .ok (.iload 4, 2) := dk_21 hN_cL_law rfl rfl rfl
theorem dL_law_781 : decode cL_law 781 = .ok (.iconst 3, 1) := dk_6 hN_cL_law rfl rfl
theorem dL_law_782 : decode cL_law 782 = .ok (.iadd, 1) := dk_96 hN_cL_law rfl rfl
theorem dL_law_783 : decode cL_law 783 = .ok (.iaload, 1) := dk_46 hN_cL_law rfl rfl
theorem dL_law_784 : decode cL_law 784 = .ok (.invokevirtual 92, 3) := dk_182 hN_cL_law rfl rfl rfl
theorem dL_law_787 : decode cL_law 787 = .ok (.pop, 1) := dk_87 hN_cL_law rfl rfl
theorem dL_law_788 : decode cL_law 788 = .ok (.goto 795, 3) := dk_167 hN_cL_law rfl rfl rfl
theorem dL_law_791 : decode cL_law 791 = .ok (.aload_n 1, 1) := dk_43 hN_cL_law rfl rfl
theorem dL_law_792 : decode cL_law 792 = .ok (.invokevirtual 93, 3) := dk_182 hN_cL_law rfl rfl rfl
theorem dL_law_795 : decode cL_law 795 = .ok (.pop, 1) := dk_87 hN_cL_law rfl rfl
theorem dL_law_796 : decode cL_law 796 = .ok (.aload_n 2, 1) := dk_44 hN_cL_law rfl rfl
theorem dL_law_797 : decode cL_law 797 = .ok (.invokevirtual 96, 3) := dk_182 hN_cL_law rfl rfl rfl
theorem dL_law_800 : decode cL_law 800 = .ok (.pop, 1) := dk_87 hN_cL_law rfl rfl
theorem dL_law_801 : decode cL_law 801 = .ok (.goto 782, 3) := dk_167 hN_cL_law rfl rfl rfl
theorem dL_law_804 : decode cL_law 804 = .ok (.aload_n 1, 1) := dk_43 hN_cL_law rfl rfl
theorem dL_law_805 : decode cL_law 805 = .ok (.invokevirtual 97, 3) := dk_182 hN_cL_law rfl rfl rfl
theorem dL_law_808 : decode cL_law 808 = .ok (.pop, 1) := dk_87 hN_cL_law rfl rfl
theorem dL_law_809 : decode cL_law 809 = .ok (.aload_n 2, 1) := dk_44 hN_cL_law rfl rfl
theorem dL_law_810 : decode cL_law 810 = .ok (.invokevirtual 100, 3) := dk_182 hN_cL_law rfl rfl rfl
theorem dL_law_813 : decode cL_law 813 = .ok (.pop, 1) := dk_87 hN_cL_law rfl rfl
theorem dL_law_814 : decode cL_law 814 = .ok (.goto 769, 3) := dk_167 hN_cL_law rfl rfl rfl
theorem dL_law_817 : decode cL_law 817 = .ok (.aload_n 1, 1) := dk_43 hN_cL_law rfl rfl
theorem dL_law_818 : decode cL_law 818 = .ok (.invokevirtual 101, 3) := dk_182 hN_cL_law rfl rfl rfl
theorem dL_law_821 : decode cL_law 821 = .ok (.pop, 1) := dk_87 hN_cL_law rfl rfl
theorem dL_law_822 : decode cL_law 822 = .ok (.aload_n 2, 1) := dk_44 hN_cL_law rfl rfl
theorem dL_law_823 : decode cL_law 823 = .ok (.invokevirtual 104, 3) := dk_182 hN_cL_law rfl rfl rfl
theorem dL_law_826 : decode cL_law 826 = .ok (.pop, 1) := dk_87 hN_cL_law rfl rfl
theorem dL_law_827 : decode cL_law 827 = .ok (.goto 756, 3) := dk_167 hN_cL_law rfl rfl rfl
theorem dL_law_830 : decode cL_law 830 = .ok (.aload_n 1, 1) := dk_43 hN_cL_law rfl rfl
theorem dL_law_831 : decode cL_law 831 = .ok (.invokevirtual 105, 3) := dk_182 hN_cL_law rfl rfl rfl
theorem dL_law_834 : decode cL_law 834 = .ok (.pop, 1) := dk_87 hN_cL_law rfl rfl
theorem dL_law_835 : decode cL_law 835 = .ok (.aload_n 2, 1) := dk_44 hN_cL_law rfl rfl
theorem dL_law_836 : decode cL_law 836 = .ok (.invokevirtual 108, 3) := dk_182 hN_cL_law rfl rfl rfl
theorem dL_law_839 : decode cL_law 839 = .ok (.pop, 1) := dk_87 hN_cL_law rfl rfl
theorem dL_law_840 : decode cL_law 840 = .ok (.goto 743, 3) := dk_167 hN_cL_law rfl rfl rfl
theorem dL_law_843 : decode cL_law 843 = .ok (.aload_n 1, 1) := dk_43 hN_cL_law rfl rfl
theorem dL_law_844 : decode cL_law 844 = .ok (.aload_n 0, 1) := dk_42 hN_cL_law rfl rfl
theorem dL_law_845 : decode cL_law 845 = .ok (.iload 4, 2) := dk_21 hN_cL_law rfl rfl rfl
theorem dL_law_847 : decode cL_law 847 = .ok (.iconst 1, 1) := dk_4 hN_cL_law rfl rfl
theorem dL_law_848 : decode cL_law 848 = .ok (.iadd, 1) := dk_96 hN_cL_law rfl rfl
theorem dL_law_849 : decode cL_law 849 = .ok (.iaload, 1) := dk_46 hN_cL_law rfl rfl
theorem dL_law_850 : decode cL_law 850 = .ok (.ifCond .eq 7, 3) := dk_153 hN_cL_law rfl rfl rfl
theorem dL_law_857 : decode cL_law 857 = .ok (.iconst 0, 1) := dk_3 hN_cL_law rfl rfl
theorem dL_law_853 : decode cL_law 853 = .ok (.iconst 1, 1) := dk_4 hN_cL_law rfl rfl
theorem dL_law_854 : decode cL_law 854 = .ok (.goto 4, 3) := dk_167 hN_cL_law rfl rfl rfl
theorem dL_law_858 : decode cL_law 858 = .ok (.invokevirtual 109, 3) := dk_182 hN_cL_law rfl rfl rfl
theorem dL_law_861 : decode cL_law 861 = .ok (.pop, 1) := dk_87 hN_cL_law rfl rfl
theorem dL_law_862 : decode cL_law 862 = .ok (.aload_n 2, 1) := dk_44 hN_cL_law rfl rfl
theorem dL_law_863 : decode cL_law 863 = .ok (.aload_n 0, 1) := dk_42 hN_cL_law rfl rfl
theorem dL_law_864 : decode cL_law 864 = .ok (.iload 4, 2) := dk_21 hN_cL_law rfl rfl rfl
theorem dL_law_866 : decode cL_law 866 = .ok (.iconst 1, 1) := dk_4 hN_cL_law rfl rfl
theorem dL_law_867 : decode cL_law 867 = .ok (.iadd, 1) := dk_96 hN_cL_law rfl rfl
theorem dL_law_868 : decode cL_law 868 = .ok (.iaload, 1) := dk_46 hN_cL_law rfl rfl
theorem dL_law_869 : decode cL_law 869 = .ok (.ifCond .eq 7, 3) := dk_153 hN_cL_law rfl rfl rfl
theorem dL_law_876 : decode cL_law 876 = .ok (.iconst 0, 1) := dk_3 hN_cL_law rfl rfl
theorem dL_law_872 : decode cL_law 872 = .ok (.iconst 1, 1) := dk_4 hN_cL_law rfl rfl
theorem dL_law_873 : decode cL_law 873 = .ok (.goto 4, 3) := dk_167 hN_cL_law rfl rfl rfl
theorem dL_law_877 : decode cL_law 877 = .ok (.invokevirtual 112, 3) := dk_182 hN_cL_law rfl rfl rfl
theorem dL_law_880 : decode cL_law 880 = .ok (.pop, 1) := dk_87 hN_cL_law rfl rfl
theorem dL_law_881 : decode cL_law 881 = .ok (.goto 702, 3) := dk_167 hN_cL_law rfl rfl rfl
theorem dL_law_884 : decode cL_law 884 = .ok (.aload_n 1, 1) := dk_43 hN_cL_law rfl rfl
theorem dL_law_885 : decode cL_law 885 = .ok (.invokevirtual 113, 3) := dk_182 hN_cL_law rfl rfl rfl
theorem dL_law_888 : decode cL_law 888 = .ok (.pop, 1) := dk_87 hN_cL_law rfl rfl
theorem dL_law_889 : decode cL_law 889 = .ok (.aload_n 2, 1) := dk_44 hN_cL_law rfl rfl
theorem dL_law_890 : decode cL_law 890 = .ok (.invokevirtual 116, 3) := dk_182 hN_cL_law rfl rfl rfl
theorem dL_law_893 : decode cL_law 893 = .ok (.pop, 1) := dk_87 hN_cL_law rfl rfl
theorem dL_law_894 : decode cL_law 894 = .ok (.goto 689, 3) := dk_167 hN_cL_law rfl rfl rfl
theorem dL_law_897 : decode cL_law 897 = .ok (.aload_n 1, 1) := dk_43 hN_cL_law rfl rfl
theorem dL_law_898 : decode cL_law 898 = .ok (.aload_n 0, 1) := dk_42 hN_cL_law rfl rfl
theorem dL_law_899 : decode cL_law 899 = .ok (.iload 4, 2) := dk_21 hN_cL_law rfl rfl rfl
theorem dL_law_901 : decode cL_law 901 = .ok (.iconst 1, 1) := dk_4 hN_cL_law rfl rfl
theorem dL_law_902 : decode cL_law 902 = .ok (.iadd, 1) := dk_96 hN_cL_law rfl rfl
theorem dL_law_903 : decode cL_law 903 = .ok (.iaload, 1) := dk_46 hN_cL_law rfl rfl
theorem dL_law_904 : decode cL_law 904 = .ok (.invokevirtual 117, 3) := dk_182 hN_cL_law rfl rfl rfl
theorem dL_law_907 : decode cL_law 907 = .ok (.pop, 1) := dk_87 hN_cL_law rfl rfl
theorem dL_law_908 : decode cL_law 908 = .ok (.aload_n 2, 1) := dk_44 hN_cL_law rfl rfl
theorem dL_law_909 : decode cL_law 909 = .ok (.aload_n 0, 1) := dk_42 hN_cL_law rfl rfl
theorem dL_law_910 : decode cL_law 910 = .ok (.iload 4, 2) := dk_21 hN_cL_law rfl rfl rfl
theorem dL_law_912 : decode cL_law 912 = .ok (.iconst 1, 1) := dk_4 hN_cL_law rfl rfl
theorem dL_law_913 : decode cL_law 913 = .ok (.iadd, 1) := dk_96 hN_cL_law rfl rfl
theorem dL_law_914 : decode cL_law 914 = .ok (.iaload, 1) := dk_46 hN_cL_law rfl rfl
theorem dL_law_915 : decode cL_law 915 = .ok (.invokevirtual 120, 3) := dk_182 hN_cL_law rfl rfl rfl
theorem dL_law_918 : decode cL_law 918 = .ok (.pop, 1) := dk_87 hN_cL_law rfl rfl
theorem dL_law_919 : decode cL_law 919 = .ok (.goto 664, 3) := dk_167 hN_cL_law rfl rfl rfl
theorem dL_law_922 : decode cL_law 922 = .ok (.aload_n 1, 1) := dk_43 hN_cL_law rfl rfl
theorem dL_law_923 : decode cL_law 923 = .ok (.invokevirtual 121, 3) := dk_182 hN_cL_law rfl rfl rfl
theorem dL_law_926 : decode cL_law 926 = .ok (.pop, 1) := dk_87 hN_cL_law rfl rfl
theorem dL_law_927 : decode cL_law 927 = .ok (.aload_n 2, 1) := dk_44 hN_cL_law rfl rfl
theorem dL_law_928 : decode cL_law 928 = .ok (.invokevirtual 124, 3) := dk_182 hN_cL_law rfl rfl rfl
theorem dL_law_931 : decode cL_law 931 = .ok (.pop, 1) := dk_87 hN_cL_law rfl rfl
theorem dL_law_932 : decode cL_law 932 = .ok (.goto 651, 3) := dk_167 hN_cL_law rfl rfl rfl
theorem dL_law_935 : decode cL_law 935 = .ok (.aload_n 1, 1) := dk_43 hN_cL_law rfl rfl
theorem dL_law_936 : decode cL_law 936 = .ok (.aload_n 0, 1) := dk_42 hN_cL_law rfl rfl
theorem dL_law_937 : decode cL_law 937 = .ok (.iload 4, 2) := dk_21 hN_cL_law rfl rfl rfl
theorem dL_law_939 : decode cL_law 939 = .ok (.iconst 1, 1) := dk_4 hN_cL_law rfl rfl
theorem dL_law_940 : decode cL_law 940 = .ok (.iadd, 1) := dk_96 hN_cL_law rfl rfl
theorem dL_law_941 : decode cL_law 941 = .ok (.iaload, 1) := dk_46 hN_cL_law rfl rfl
theorem dL_law_942 : decode cL_law 942 = .ok (.invokevirtual 125, 3) := dk_182 hN_cL_law rfl rfl rfl
theorem dL_law_945 : decode cL_law 945 = .ok (.pop, 1) := dk_87 hN_cL_law rfl rfl
theorem dL_law_946 : decode cL_law 946 = .ok (.aload_n 2, 1) := dk_44 hN_cL_law rfl rfl
theorem dL_law_947 : decode cL_law 947 = .ok (.aload_n 0, 1) := dk_42 hN_cL_law rfl rfl
theorem dL_law_948 : decode cL_law 948 = .ok (.iload 4, 2) := dk_21 hN_cL_law rfl rfl rfl
theorem dL_law_950 : decode cL_law 950 = .ok (.iconst 1, 1) := dk_4 hN_cL_law rfl rfl
theorem dL_law_951 : decode cL_law 951 = .ok (.iadd, 1) := dk_96 hN_cL_law rfl rfl
theorem dL_law_952 : decode cL_law 952 = .ok (.iaload, 1) := dk_46 hN_cL_law rfl rfl
theorem dL_law_953 : decode cL_law 953 = .ok (.invokevirtual 128, 3) := dk_182 hN_cL_law rfl rfl rfl
theorem dL_law_956 : decode cL_law 956 = .ok (.pop, 1) := dk_87 hN_cL_law rfl rfl
theorem dL_law_957 : decode cL_law 957 = .ok (.goto 626, 3) := dk_167 hN_cL_law rfl rfl rfl
theorem dL_law_960 : decode cL_law 960 = .ok (.aload_n 1, 1) := dk_43 hN_cL_law rfl rfl
theorem dL_law_961 : decode cL_law 961 = .ok (.invokevirtual 129, 3) := dk_182 hN_cL_law rfl rfl rfl
theorem dL_law_964 : decode cL_law 964 = .ok (.pop, 1) := dk_87 hN_cL_law rfl rfl
theorem dL_law_965 : decode cL_law 965 = .ok (.aload_n 2, 1) := dk_44 hN_cL_law rfl rfl
theorem dL_law_966 : decode cL_law 966 = .ok (.invokevirtual 132, 3) := dk_182 hN_cL_law rfl rfl rfl
theorem dL_law_969 : decode cL_law 969 = .ok (.pop, 1) := dk_87 hN_cL_law rfl rfl
theorem dL_law_970 : decode cL_law 970 = .ok (.goto 613, 3) := dk_167 hN_cL_law rfl rfl rfl
theorem dL_law_973 : decode cL_law 973 = .ok (.aload_n 1, 1) := dk_43 hN_cL_law rfl rfl
theorem dL_law_974 : decode cL_law 974 = .ok (.aload_n 0, 1) := dk_42 hN_cL_law rfl rfl
theorem dL_law_975 : decode cL_law 975 = .ok (.iload 4, 2) := dk_21 hN_cL_law rfl rfl rfl
theorem dL_law_977 : decode cL_law 977 = .ok (.iconst 1, 1) := dk_4 hN_cL_law rfl rfl
theorem dL_law_978 : decode cL_law 978 = .ok (.iadd, 1) := dk_96 hN_cL_law rfl rfl
theorem dL_law_979 : decode cL_law 979 = .ok (.iaload, 1) := dk_46 hN_cL_law rfl rfl
theorem dL_law_980 : decode cL_law 980 = .ok (.aload_n 0, 1) := dk_42 hN_cL_law rfl rfl
theorem dL_law_981 : decode cL_law 981 = .ok (.iload 4, 2) := dk_21 hN_cL_law rfl rfl rfl
theorem dL_law_983 : decode cL_law 983 = .ok (.iconst 2, 1) := dk_5 hN_cL_law rfl rfl
theorem dL_law_984 : decode cL_law 984 = .ok (.iadd, 1) := dk_96 hN_cL_law rfl rfl
theorem dL_law_985 : decode cL_law 985 = .ok (.iaload, 1) := dk_46 hN_cL_law rfl rfl
theorem dL_law_986 : decode cL_law 986 = .ok (.invokevirtual 133, 3) := dk_182 hN_cL_law rfl rfl rfl
theorem dL_law_989 : decode cL_law 989 = .ok (.pop, 1) := dk_87 hN_cL_law rfl rfl
theorem dL_law_990 : decode cL_law 990 = .ok (.aload_n 2, 1) := dk_44 hN_cL_law rfl rfl
theorem dL_law_991 : decode cL_law 991 = .ok (.aload_n 0, 1) := dk_42 hN_cL_law rfl rfl
theorem dL_law_992 : decode cL_law 992 = .ok (.iload 4, 2) := dk_21 hN_cL_law rfl rfl rfl
theorem dL_law_994 : decode cL_law 994 = .ok (.iconst 1, 1) := dk_4 hN_cL_law rfl rfl
theorem dL_law_995 : decode cL_law 995 = .ok (.iadd, 1) := dk_96 hN_cL_law rfl rfl
theorem dL_law_996 : decode cL_law 996 = .ok (.iaload, 1) := dk_46 hN_cL_law rfl rfl
theorem dL_law_997 : decode cL_law 997 = .ok (.aload_n 0, 1) := dk_42 hN_cL_law rfl rfl
theorem dL_law_998 : decode cL_law 998 = .ok (.iload 4, 2) := dk_21 hN_cL_law rfl rfl rfl
theorem dL_law_1000 : decode cL_law 1000 = .ok (.iconst 2, 1) := dk_5 hN_cL_law rfl rfl
theorem dL_law_1001 : decode cL_law 1001 = .ok (.iadd, 1) := dk_96 hN_cL_law rfl rfl
theorem dL_law_1002 : decode cL_law 1002 = .ok (.iaload, 1) := dk_46 hN_cL_law rfl rfl
theorem dL_law_1003 : decode cL_law 1003 = .ok (.invokevirtual 136, 3) := dk_182 hN_cL_law rfl rfl rfl
theorem dL_law_1006 : decode cL_law 1006 = .ok (.pop, 1) := dk_87 hN_cL_law rfl rfl
theorem dL_law_1007 : decode cL_law 1007 = .ok (.goto 576, 3) := dk_167 hN_cL_law rfl rfl rfl
theorem dL_law_1010 : decode cL_law 1010 = .ok (.aload_n 1, 1) := dk_43 hN_cL_law rfl rfl
theorem dL_law_1011 : decode cL_law 1011 = .ok (.invokevirtual 137, 3) := dk_182 hN_cL_law rfl rfl rfl
theorem dL_law_1014 : decode cL_law 1014 = .ok (.pop, 1) := dk_87 hN_cL_law rfl rfl
theorem dL_law_1015 : decode cL_law 1015 = .ok (.aload_n 2, 1) := dk_44 hN_cL_law rfl rfl
theorem dL_law_1016 : decode cL_law 1016 = .ok (.invokevirtual 140, 3) := dk_182 hN_cL_law rfl rfl rfl
theorem dL_law_1019 : decode cL_law 1019 = .ok (.pop, 1) := dk_87 hN_cL_law rfl rfl
theorem dL_law_1020 : decode cL_law 1020 = .ok (.goto 563, 3) := dk_167 hN_cL_law rfl rfl rfl
theorem dL_law_1023 : decode cL_law 1023 = .ok (.aload_n 1, 1) := dk_43 hN_cL_law rfl rfl
theorem dL_law_1024 : decode cL_law 1024 = .ok (.invokevirtual 141, 3) := dk_182 hN_cL_law rfl rfl rfl
theorem dL_law_1027 : decode cL_law 1027 = .ok (.pop, 1) := dk_87 hN_cL_law rfl rfl
theorem dL_law_1028 : decode cL_law 1028 = .ok (.aload_n 2, 1) := dk_44 hN_cL_law rfl rfl
theorem dL_law_1029 : decode cL_law 1029 = .ok (.invokevirtual 144, 3) := dk_182 hN_cL_law rfl rfl rfl
theorem dL_law_1032 : decode cL_law 1032 = .ok (.pop, 1) := dk_87 hN_cL_law rfl rfl
theorem dL_law_1033 : decode cL_law 1033 = .ok (.goto 550, 3) := dk_167 hN_cL_law rfl rfl rfl
theorem dL_law_1036 : decode cL_law 1036 = .ok (.aload_n 1, 1) := dk_43 hN_cL_law rfl rfl
theorem dL_law_1037 : decode cL_law 1037 = .ok (.invokevirtual 145, 3) := dk_182 hN_cL_law rfl rfl rfl
theorem dL_law_1040 : decode cL_law 1040 = .ok (.pop, 1) := dk_87 hN_cL_law rfl rfl
theorem dL_law_1041 : decode cL_law 1041 = .ok (.aload_n 2, 1) := dk_44 hN_cL_law rfl rfl
theorem dL_law_1042 : decode cL_law 1042 = .ok (.invokevirtual 148, 3) := dk_182 hN_cL_law rfl rfl rfl
theorem dL_law_1045 : decode cL_law 1045 = .ok (.pop, 1) := dk_87 hN_cL_law rfl rfl
theorem dL_law_1046 : decode cL_law 1046 = .ok (.goto 537, 3) := dk_167 hN_cL_law rfl rfl rfl
theorem dL_law_1049 : decode cL_law 1049 = .ok (.aload_n 1, 1) := dk_43 hN_cL_law rfl rfl
theorem dL_law_1050 : decode cL_law 1050 = .ok (.invokevirtual 149, 3) := dk_182 hN_cL_law rfl rfl rfl
theorem dL_law_1053 : decode cL_law 1053 = .ok (.pop, 1) := dk_87 hN_cL_law rfl rfl
theorem dL_law_1054 : decode cL_law 1054 = .ok (.aload_n 2, 1) := dk_44 hN_cL_law rfl rfl
theorem dL_law_1055 : decode cL_law 1055 = .ok (.invokevirtual 152, 3) := dk_182 hN_cL_law rfl rfl rfl
theorem dL_law_1058 : decode cL_law 1058 = .ok (.pop, 1) := dk_87 hN_cL_law rfl rfl
theorem dL_law_1059 : decode cL_law 1059 = .ok (.goto 524, 3) := dk_167 hN_cL_law rfl rfl rfl
theorem dL_law_1062 : decode cL_law 1062 = .ok (.aload_n 1, 1) := dk_43 hN_cL_law rfl rfl
theorem dL_law_1063 : decode cL_law 1063 = .ok (.invokevirtual 153, 3) := dk_182 hN_cL_law rfl rfl rfl
theorem dL_law_1066 : decode cL_law 1066 = .ok (.pop, 1) := dk_87 hN_cL_law rfl rfl
theorem dL_law_1067 : decode cL_law 1067 = .ok (.aload_n 2, 1) := dk_44 hN_cL_law rfl rfl
theorem dL_law_1068 : decode cL_law 1068 = .ok (.invokevirtual 156, 3) := dk_182 hN_cL_law rfl rfl rfl
theorem dL_law_1071 : decode cL_law 1071 = .ok (.pop, 1) := dk_87 hN_cL_law rfl rfl
theorem dL_law_1072 : decode cL_law 1072 = .ok (.goto 511, 3) := dk_167 hN_cL_law rfl rfl rfl
theorem dL_law_1075 : decode cL_law 1075 = .ok (.aload_n 1, 1) := dk_43 hN_cL_law rfl rfl
theorem dL_law_1076 : decode cL_law 1076 = .ok (.invokevirtual 157, 3) := dk_182 hN_cL_law rfl rfl rfl
theorem dL_law_1079 : decode cL_law 1079 = .ok (.pop, 1) := dk_87 hN_cL_law rfl rfl
theorem dL_law_1080 : decode cL_law 1080 = .ok (.aload_n 2, 1) := dk_44 hN_cL_law rfl rfl
theorem dL_law_1081 : decode cL_law 1081 = .ok (.invokevirtual 160, 3) := dk_182 hN_cL_law rfl rfl rfl
theorem dL_law_1084 : decode cL_law 1084 = .ok (.pop, 1) := dk_87 hN_cL_law rfl rfl
theorem dL_law_1085 : decode cL_law 1085 = .ok (.goto 498, 3) := dk_167 hN_cL_law rfl rfl rfl
theorem dL_law_1088 : decode cL_law 1088 = .ok (.aload_n 1, 1) := dk_43 hN_cL_law rfl rfl
theorem dL_law_1089 : decode cL_law 1089 = .ok (.aload_n 0, 1) := dk_42 hN_cL_law rfl rfl
theorem dL_law_1090 : decode cL_law 1090 = .ok (.iload 4, 2) := dk_21 hN_cL_law rfl rfl rfl
theorem dL_law_1092 : decode cL_law 1092 = .ok (.iconst 1, 1) := dk_4 hN_cL_law rfl rfl
theorem dL_law_1093 : decode cL_law 1093 = .ok (.iadd, 1) := dk_96 hN_cL_law rfl rfl
theorem dL_law_1094 : decode cL_law 1094 = .ok (.iaload, 1) := dk_46 hN_cL_law rfl rfl
theorem dL_law_1095 : decode cL_law 1095 = .ok (.aload_n 0, 1) := dk_42 hN_cL_law rfl rfl
theorem dL_law_1096 : decode cL_law 1096 = .ok (.iload 4, 2) := dk_21 hN_cL_law rfl rfl rfl
theorem dL_law_1098 : decode cL_law 1098 = .ok (.iconst 2, 1) := dk_5 hN_cL_law rfl rfl
theorem dL_law_1099 : decode cL_law 1099 = .ok (.iadd, 1) := dk_96 hN_cL_law rfl rfl
theorem dL_law_1100 : decode cL_law 1100 = .ok (.iaload, 1) := dk_46 hN_cL_law rfl rfl
theorem dL_law_1101 : decode cL_law 1101 = .ok (.aload_n 0, 1) := dk_42 hN_cL_law rfl rfl
theorem dL_law_1102 : decode cL_law 1102 = .ok (.iload 4, 2) := dk_21 hN_cL_law rfl rfl rfl
theorem dL_law_1104 : decode cL_law 1104 = .ok (.iconst 3, 1) := dk_6 hN_cL_law rfl rfl
theorem dL_law_1105 : decode cL_law 1105 = .ok (.iadd, 1) := dk_96 hN_cL_law rfl rfl
theorem dL_law_1106 : decode cL_law 1106 = .ok (.iaload, 1) := dk_46 hN_cL_law rfl rfl
theorem dL_law_1107 : decode cL_law 1107 = .ok (.ifCond .eq 7, 3) := dk_153 hN_cL_law rfl rfl rfl
theorem dL_law_1114 : decode cL_law 1114 = .ok (.iconst 0, 1) := dk_3 hN_cL_law rfl rfl
theorem dL_law_1110 : decode cL_law 1110 = .ok (.iconst 1, 1) := dk_4 hN_cL_law rfl rfl
theorem dL_law_1111 : decode cL_law 1111 = .ok (.goto 4, 3) := dk_167 hN_cL_law rfl rfl rfl
theorem dL_law_1115 : decode cL_law 1115 = .ok (.invokevirtual 161, 3) := dk_182 hN_cL_law rfl rfl rfl
theorem dL_law_1118 : decode cL_law 1118 = .ok (.pop, 1) := dk_87 hN_cL_law rfl rfl
theorem dL_law_1119 : decode cL_law 1119 = .ok (.aload_n 2, 1) := dk_44 hN_cL_law rfl rfl
theorem dL_law_1120 : decode cL_law 1120 = .ok (.aload_n 0, 1) := dk_42 hN_cL_law rfl rfl
theorem dL_law_1121 : decode cL_law 1121 = .ok (.iload 4, 2) := dk_21 hN_cL_law rfl rfl rfl
theorem dL_law_1123 : decode cL_law 1123 = .ok (.iconst 1, 1) := dk_4 hN_cL_law rfl rfl
theorem dL_law_1124 : decode cL_law 1124 = .ok (.iadd, 1) := dk_96 hN_cL_law rfl rfl
theorem dL_law_1125 : decode cL_law 1125 = .ok (.iaload, 1) := dk_46 hN_cL_law rfl rfl
theorem dL_law_1126 : decode cL_law 1126 = .ok (.aload_n 0, 1) := dk_42 hN_cL_law rfl rfl
theorem dL_law_1127 : decode cL_law 1127 = .ok (.iload 4, 2) := dk_21 hN_cL_law rfl rfl rfl
theorem dL_law_1129 : decode cL_law 1129 = .ok (.iconst 2, 1) := dk_5 hN_cL_law rfl rfl
theorem dL_law_1130 : decode cL_law 1130 = .ok (.iadd, 1) := dk_96 hN_cL_law rfl rfl
theorem dL_law_1131 : decode cL_law 1131 = .ok (.iaload, 1) := dk_46 hN_cL_law rfl rfl
theorem dL_law_1132 : decode cL_law 1132 = .ok (.aload_n 0, 1) := dk_42 hN_cL_law rfl rfl
theorem dL_law_1133 : decode cL_law 1133 = .ok (.iload 4, 2) := dk_21 hN_cL_law rfl rfl rfl
theorem dL_law_1135 : decode cL_law 1135 = .ok (.iconst 3, 1) := dk_6 hN_cL_law rfl rfl
theorem dL_law_1136 : decode cL_law 1136 = .ok (.iadd, 1) := dk_96 hN_cL_law rfl rfl
theorem dL_law_1137 : decode cL_law 1137 = .ok (.iaload, 1) := dk_46 hN_cL_law rfl rfl
theorem dL_law_1138 : decode cL_law 1138 = .ok (.ifCond .eq 7, 3) := dk_153 hN_cL_law rfl rfl rfl
theorem dL_law_1145 : decode cL_law 1145 = .ok (.iconst 0, 1) := dk_3 hN_cL_law rfl rfl
theorem dL_law_1141 : decode cL_law 1141 = .ok (.iconst 1, 1) := dk_4 hN_cL_law rfl rfl
theorem dL_law_1142 : decode cL_law 1142 = .ok (.goto 4, 3) := dk_167 hN_cL_law rfl rfl rfl
theorem dL_law_1146 : decode cL_law 1146 = .ok (.invokevirtual 165, 3) := dk_182 hN_cL_law rfl rfl rfl
theorem dL_law_1149 : decode cL_law 1149 = .ok (.pop, 1) := dk_87 hN_cL_law rfl rfl
theorem dL_law_1150 : decode cL_law 1150 = .ok (.goto 433, 3) := dk_167 hN_cL_law rfl rfl rfl
theorem dL_law_1153 : decode cL_law 1153 = .ok (.aload_n 1, 1) := dk_43 hN_cL_law rfl rfl
theorem dL_law_1154 : decode cL_law 1154 = .ok (.aload_n 0, 1) := dk_42 hN_cL_law rfl rfl
theorem dL_law_1155 : decode cL_law 1155 = .ok (.iload 4, 2) := dk_21 hN_cL_law rfl rfl rfl
theorem dL_law_1157 : decode cL_law 1157 = .ok (.iconst 1, 1) := dk_4 hN_cL_law rfl rfl
theorem dL_law_1158 : decode cL_law 1158 = .ok (.iadd, 1) := dk_96 hN_cL_law rfl rfl
theorem dL_law_1159 : decode cL_law 1159 = .ok (.iaload, 1) := dk_46 hN_cL_law rfl rfl
theorem dL_law_1160 : decode cL_law 1160 = .ok (.invokevirtual 166, 3) := dk_182 hN_cL_law rfl rfl rfl
theorem dL_law_1163 : decode cL_law 1163 = .ok (.pop, 1) := dk_87 hN_cL_law rfl rfl
theorem dL_law_1164 : decode cL_law 1164 = .ok (.aload_n 2, 1) := dk_44 hN_cL_law rfl rfl
theorem dL_law_1165 : decode cL_law 1165 = .ok (.aload_n 0, 1) := dk_42 hN_cL_law rfl rfl
theorem dL_law_1166 : decode cL_law 1166 = .ok (.iload 4, 2) := dk_21 hN_cL_law rfl rfl rfl
theorem dL_law_1168 : decode cL_law 1168 = .ok (.iconst 1, 1) := dk_4 hN_cL_law rfl rfl
theorem dL_law_1169 : decode cL_law 1169 = .ok (.iadd, 1) := dk_96 hN_cL_law rfl rfl
theorem dL_law_1170 : decode cL_law 1170 = .ok (.iaload, 1) := dk_46 hN_cL_law rfl rfl
theorem dL_law_1171 : decode cL_law 1171 = .ok (.invokevirtual 170, 3) := dk_182 hN_cL_law rfl rfl rfl
theorem dL_law_1174 : decode cL_law 1174 = .ok (.pop, 1) := dk_87 hN_cL_law rfl rfl
theorem dL_law_1175 : decode cL_law 1175 = .ok (.goto 408, 3) := dk_167 hN_cL_law rfl rfl rfl
theorem dL_law_1178 : decode cL_law 1178 = .ok (.aload_n 1, 1) := dk_43 hN_cL_law rfl rfl
theorem dL_law_1179 : decode cL_law 1179 = .ok (.aload_n 0, 1) := dk_42 hN_cL_law rfl rfl
theorem dL_law_1180 : decode cL_law 1180 = .ok (.iload 4, 2) := dk_21 hN_cL_law rfl rfl rfl
theorem dL_law_1182 : decode cL_law 1182 = .ok (.iconst 1, 1) := dk_4 hN_cL_law rfl rfl
theorem dL_law_1183 : decode cL_law 1183 = .ok (.iadd, 1) := dk_96 hN_cL_law rfl rfl
theorem dL_law_1184 : decode cL_law 1184 = .ok (.iaload, 1) := dk_46 hN_cL_law rfl rfl
theorem dL_law_1185 : decode cL_law 1185 = .ok (.invokevirtual 171, 3) := dk_182 hN_cL_law rfl rfl rfl
theorem dL_law_1188 : decode cL_law 1188 = .ok (.pop, 1) := dk_87 hN_cL_law rfl rfl
theorem dL_law_1189 : decode cL_law 1189 = .ok (.aload_n 2, 1) := dk_44 hN_cL_law rfl rfl
theorem dL_law_1190 : decode cL_law 1190 = .ok (.aload_n 0, 1) := dk_42 hN_cL_law rfl rfl
theorem dL_law_1191 : decode cL_law 1191 = .ok (.iload 4, 2) := dk_21 hN_cL_law rfl rfl rfl
theorem dL_law_1193 : decode cL_law 1193 = .ok (.iconst 1, 1) := dk_4 hN_cL_law rfl rfl
theorem dL_law_1194 : decode cL_law 1194 = .ok (.iadd, 1) := dk_96 hN_cL_law rfl rfl
theorem dL_law_1195 : decode cL_law 1195 = .ok (.iaload, 1) := dk_46 hN_cL_law rfl rfl
theorem dL_law_1196 : decode cL_law 1196 = .ok (.invokevirtual 174, 3) := dk_182 hN_cL_law rfl rfl rfl
theorem dL_law_1199 : decode cL_law 1199 = .ok (.pop, 1) := dk_87 hN_cL_law rfl rfl
theorem dL_law_1200 : decode cL_law 1200 = .ok (.goto 383, 3) := dk_167 hN_cL_law rfl rfl rfl
theorem dL_law_1203 : decode cL_law 1203 = .ok (.aload_n 1, 1) := dk_43 hN_cL_law rfl rfl
theorem dL_law_1204 : decode cL_law 1204 = .ok (.aload_n 0, 1) := dk_42 hN_cL_law rfl rfl
theorem dL_law_1205 : decode cL_law 1205 = .ok (.iload 4, 2) := dk_21 hN_cL_law rfl rfl rfl
theorem dL_law_1207 : decode cL_law 1207 = .ok (.iconst 1, 1) := dk_4 hN_cL_law rfl rfl
theorem dL_law_1208 : decode cL_law 1208 = .ok (.iadd, 1) := dk_96 hN_cL_law rfl rfl
theorem dL_law_1209 : decode cL_law 1209 = .ok (.iaload, 1) := dk_46 hN_cL_law rfl rfl
theorem dL_law_1210 : decode cL_law 1210 = .ok (.invokevirtual 175, 3) := dk_182 hN_cL_law rfl rfl rfl
theorem dL_law_1213 : decode cL_law 1213 = .ok (.pop, 1) := dk_87 hN_cL_law rfl rfl
theorem dL_law_1214 : decode cL_law 1214 = .ok (.aload_n 2, 1) := dk_44 hN_cL_law rfl rfl
theorem dL_law_1215 : decode cL_law 1215 = .ok (.aload_n 0, 1) := dk_42 hN_cL_law rfl rfl
theorem dL_law_1216 : decode cL_law 1216 = .ok (.iload 4, 2) := dk_21 hN_cL_law rfl rfl rfl
theorem dL_law_1218 : decode cL_law 1218 = .ok (.iconst 1, 1) := dk_4 hN_cL_law rfl rfl
theorem dL_law_1219 : decode cL_law 1219 = .ok (.iadd, 1) := dk_96 hN_cL_law rfl rfl
theorem dL_law_1220 : decode cL_law 1220 = .ok (.iaload, 1) := dk_46 hN_cL_law rfl rfl
theorem dL_law_1221 : decode cL_law 1221 = .ok (.invokevirtual 178, 3) := dk_182 hN_cL_law rfl rfl rfl
theorem dL_law_1224 : decode cL_law 1224 = .ok (.pop, 1) := dk_87 hN_cL_law rfl rfl
theorem dL_law_1225 : decode cL_law 1225 = .ok (.goto 358, 3) := dk_167 hN_cL_law rfl rfl rfl
theorem dL_law_1228 : decode cL_law 1228 = .ok (.aload_n 1, 1) := dk_43 hN_cL_law rfl rfl
theorem dL_law_1229 : decode cL_law 1229 = .ok (.aload_n 0, 1) := dk_42 hN_cL_law rfl rfl
theorem dL_law_1230 : decode cL_law 1230 = .ok (.iload 4, 2) := dk_21 hN_cL_law rfl rfl rfl
theorem dL_law_1232 : decode cL_law 1232 = .ok (.iconst 1, 1) := dk_4 hN_cL_law rfl rfl
theorem dL_law_1233 : decode cL_law 1233 = .ok (.iadd, 1) := dk_96 hN_cL_law rfl rfl
theorem dL_law_1234 : decode cL_law 1234 = .ok (.iaload, 1) := dk_46 hN_cL_law rfl rfl
theorem dL_law_1235 : decode cL_law 1235 = .ok (.aload_n 0, 1) := dk_42 hN_cL_law rfl rfl
theorem dL_law_1236 : decode cL_law 1236 = .ok (.iload 4, 2) := dk_21 hN_cL_law rfl rfl rfl
theorem dL_law_1238 : decode cL_law 1238 = .ok (.iconst 2, 1) := dk_5 hN_cL_law rfl rfl
theorem dL_law_1239 : decode cL_law 1239 = .ok (.iadd, 1) := dk_96 hN_cL_law rfl rfl
theorem dL_law_1240 : decode cL_law 1240 = .ok (.iaload, 1) := dk_46 hN_cL_law rfl rfl
theorem dL_law_1241 : decode cL_law 1241 = .ok (.aload_n 0, 1) := dk_42 hN_cL_law rfl rfl
theorem dL_law_1242 : decode cL_law 1242 = .ok (.iload 4, 2) := dk_21 hN_cL_law rfl rfl rfl
theorem dL_law_1244 : decode cL_law 1244 = .ok (.iconst 3, 1) := dk_6 hN_cL_law rfl rfl
theorem dL_law_1245 : decode cL_law 1245 = .ok (.iadd, 1) := dk_96 hN_cL_law rfl rfl
theorem dL_law_1246 : decode cL_law 1246 = .ok (.iaload, 1) := dk_46 hN_cL_law rfl rfl
theorem dL_law_1247 : decode cL_law 1247 = .ok (.aload_n 0, 1) := dk_42 hN_cL_law rfl rfl
theorem dL_law_1248 : decode cL_law 1248 = .ok (.iload 4, 2) := dk_21 hN_cL_law rfl rfl rfl
theorem dL_law_1250 : decode cL_law 1250 = .ok (.iconst 4, 1) := dk_7 hN_cL_law rfl rfl
theorem dL_law_1251 : decode cL_law 1251 = .ok (.iadd, 1) := dk_96 hN_cL_law rfl rfl
theorem dL_law_1252 : decode cL_law 1252 = .ok (.iaload, 1) := dk_46 hN_cL_law rfl rfl
theorem dL_law_1253 : decode cL_law 1253 = .ok (.invokevirtual 179, 3) := dk_182 hN_cL_law rfl rfl rfl
theorem dL_law_1256 : decode cL_law 1256 = .ok (.pop, 1) := dk_87 hN_cL_law rfl rfl
theorem dL_law_1257 : decode cL_law 1257 = .ok (.aload_n 2, 1) := dk_44 hN_cL_law rfl rfl
theorem dL_law_1258 : decode cL_law 1258 = .ok (.aload_n 0, 1) := dk_42 hN_cL_law rfl rfl
theorem dL_law_1259 : decode cL_law 1259 = .ok (.iload 4, 2) := dk_21 hN_cL_law rfl rfl rfl
theorem dL_law_1261 : decode cL_law 1261 = .ok (.iconst 1, 1) := dk_4 hN_cL_law rfl rfl
theorem dL_law_1262 : decode cL_law 1262 = .ok (.iadd, 1) := dk_96 hN_cL_law rfl rfl
theorem dL_law_1263 : decode cL_law 1263 = .ok (.iaload, 1) := dk_46 hN_cL_law rfl rfl
theorem dL_law_1264 : decode cL_law 1264 = .ok (.aload_n 0, 1) := dk_42 hN_cL_law rfl rfl
theorem dL_law_1265 : decode cL_law 1265 = .ok (.iload 4, 2) := dk_21 hN_cL_law rfl rfl rfl
theorem dL_law_1267 : decode cL_law 1267 = .ok (.iconst 2, 1) := dk_5 hN_cL_law rfl rfl
theorem dL_law_1268 : decode cL_law 1268 = .ok (.iadd, 1) := dk_96 hN_cL_law rfl rfl
theorem dL_law_1269 : decode cL_law 1269 = .ok (.iaload, 1) := dk_46 hN_cL_law rfl rfl
theorem dL_law_1270 : decode cL_law 1270 = .ok (.aload_n 0, 1) := dk_42 hN_cL_law rfl rfl
theorem dL_law_1271 : decode cL_law 1271 = .ok (.iload 4, 2) := dk_21 hN_cL_law rfl rfl rfl
theorem dL_law_1273 : decode cL_law 1273 = .ok (.iconst 3, 1) := dk_6 hN_cL_law rfl rfl
theorem dL_law_1274 : decode cL_law 1274 = .ok (.iadd, 1) := dk_96 hN_cL_law rfl rfl
theorem dL_law_1275 : decode cL_law 1275 = .ok (.iaload, 1) := dk_46 hN_cL_law rfl rfl
theorem dL_law_1276 : decode cL_law 1276 = .ok (.aload_n 0, 1) := dk_42 hN_cL_law rfl rfl
theorem dL_law_1277 : decode cL_law 1277 = .ok (.iload 4, 2) := dk_21 hN_cL_law rfl rfl rfl
theorem dL_law_1279 : decode cL_law 1279 = .ok (.iconst 4, 1) := dk_7 hN_cL_law rfl rfl
theorem dL_law_1280 : decode cL_law 1280 = .ok (.iadd, 1) := dk_96 hN_cL_law rfl rfl
theorem dL_law_1281 : decode cL_law 1281 = .ok (.iaload, 1) := dk_46 hN_cL_law rfl rfl
theorem dL_law_1282 : decode cL_law 1282 = .ok (.invokevirtual 183, 3) := dk_182 hN_cL_law rfl rfl rfl
theorem dL_law_1285 : decode cL_law 1285 = .ok (.pop, 1) := dk_87 hN_cL_law rfl rfl
theorem dL_law_1286 : decode cL_law 1286 = .ok (.goto 297, 3) := dk_167 hN_cL_law rfl rfl rfl
theorem dL_law_1289 : decode cL_law 1289 = .ok (.aload_n 1, 1) := dk_43 hN_cL_law rfl rfl
theorem dL_law_1290 : decode cL_law 1290 = .ok (.invokevirtual 184, 3) := dk_182 hN_cL_law rfl rfl rfl
theorem dL_law_1293 : decode cL_law 1293 = .ok (.pop, 1) := dk_87 hN_cL_law rfl rfl
theorem dL_law_1294 : decode cL_law 1294 = .ok (.aload_n 2, 1) := dk_44 hN_cL_law rfl rfl
theorem dL_law_1295 : decode cL_law 1295 = .ok (.invokevirtual 188, 3) := dk_182 hN_cL_law rfl rfl rfl
theorem dL_law_1298 : decode cL_law 1298 = .ok (.pop, 1) := dk_87 hN_cL_law rfl rfl
theorem dL_law_1299 : decode cL_law 1299 = .ok (.goto 284, 3) := dk_167 hN_cL_law rfl rfl rfl
theorem dL_law_1302 : decode cL_law 1302 = .ok (.aload_n 1, 1) := dk_43 hN_cL_law rfl rfl
theorem dL_law_1303 : decode cL_law 1303 = .ok (.invokevirtual 189, 3) := dk_182 hN_cL_law rfl rfl rfl
theorem dL_law_1306 : decode cL_law 1306 = .ok (.pop, 1) := dk_87 hN_cL_law rfl rfl
theorem dL_law_1307 : decode cL_law 1307 = .ok (.aload_n 2, 1) := dk_44 hN_cL_law rfl rfl
theorem dL_law_1308 : decode cL_law 1308 = .ok (.invokevirtual 192, 3) := dk_182 hN_cL_law rfl rfl rfl
theorem dL_law_1311 : decode cL_law 1311 = .ok (.pop, 1) := dk_87 hN_cL_law rfl rfl
theorem dL_law_1312 : decode cL_law 1312 = .ok (.goto 271, 3) := dk_167 hN_cL_law rfl rfl rfl
theorem dL_law_1315 : decode cL_law 1315 = .ok (.aload_n 1, 1) := dk_43 hN_cL_law rfl rfl
theorem dL_law_1316 : decode cL_law 1316 = .ok (.invokevirtual 193, 3) := dk_182 hN_cL_law rfl rfl rfl
theorem dL_law_1319 : decode cL_law 1319 = .ok (.pop, 1) := dk_87 hN_cL_law rfl rfl
theorem dL_law_1320 : decode cL_law 1320 = .ok (.aload_n 2, 1) := dk_44 hN_cL_law rfl rfl
theorem dL_law_1321 : decode cL_law 1321 = .ok (.invokevirtual 196, 3) := dk_182 hN_cL_law rfl rfl rfl
theorem dL_law_1324 : decode cL_law 1324 = .ok (.pop, 1) := dk_87 hN_cL_law rfl rfl
theorem dL_law_1325 : decode cL_law 1325 = .ok (.goto 258, 3) := dk_167 hN_cL_law rfl rfl rfl
theorem dL_law_1328 : decode cL_law 1328 = .ok (.aload_n 1, 1) := dk_43 hN_cL_law rfl rfl
theorem dL_law_1329 : decode cL_law 1329 = .ok (.aload_n 0, 1) := dk_42 hN_cL_law rfl rfl
theorem dL_law_1330 : decode cL_law 1330 = .ok (.iload 4, 2) := dk_21 hN_cL_law rfl rfl rfl
theorem dL_law_1332 : decode cL_law 1332 = .ok (.iconst 1, 1) := dk_4 hN_cL_law rfl rfl
theorem dL_law_1333 : decode cL_law 1333 = .ok (.iadd, 1) := dk_96 hN_cL_law rfl rfl
theorem dL_law_1334 : decode cL_law 1334 = .ok (.iaload, 1) := dk_46 hN_cL_law rfl rfl
theorem dL_law_1335 : decode cL_law 1335 = .ok (.invokevirtual 197, 3) := dk_182 hN_cL_law rfl rfl rfl
theorem dL_law_1338 : decode cL_law 1338 = .ok (.pop, 1) := dk_87 hN_cL_law rfl rfl
theorem dL_law_1339 : decode cL_law 1339 = .ok (.aload_n 2, 1) := dk_44 hN_cL_law rfl rfl
theorem dL_law_1340 : decode cL_law 1340 = .ok (.aload_n 0, 1) := dk_42 hN_cL_law rfl rfl
theorem dL_law_1341 : decode cL_law 1341 = .ok (.iload 4, 2) := dk_21 hN_cL_law rfl rfl rfl
theorem dL_law_1343 : decode cL_law 1343 = .ok (.iconst 1, 1) := dk_4 hN_cL_law rfl rfl
theorem dL_law_1344 : decode cL_law 1344 = .ok (.iadd, 1) := dk_96 hN_cL_law rfl rfl
theorem dL_law_1345 : decode cL_law 1345 = .ok (.iaload, 1) := dk_46 hN_cL_law rfl rfl
theorem dL_law_1346 : decode cL_law 1346 = .ok (.invokevirtual 200, 3) := dk_182 hN_cL_law rfl rfl rfl
theorem dL_law_1349 : decode cL_law 1349 = .ok (.pop, 1) := dk_87 hN_cL_law rfl rfl
theorem dL_law_1350 : decode cL_law 1350 = .ok (.goto 233, 3) := dk_167 hN_cL_law rfl rfl rfl
theorem dL_law_1353 : decode cL_law 1353 = .ok (.aload_n 1, 1) := dk_43 hN_cL_law rfl rfl
theorem dL_law_1354 : decode cL_law 1354 = .ok (.aload_n 0, 1) := dk_42 hN_cL_law rfl rfl
theorem dL_law_1355 : decode cL_law 1355 = .ok (.iload 4, 2) := dk_21 hN_cL_law rfl rfl rfl
theorem dL_law_1357 : decode cL_law 1357 = .ok (.iconst 1, 1) := dk_4 hN_cL_law rfl rfl
theorem dL_law_1358 : decode cL_law 1358 = .ok (.iadd, 1) := dk_96 hN_cL_law rfl rfl
theorem dL_law_1359 : decode cL_law 1359 = .ok (.iaload, 1) := dk_46 hN_cL_law rfl rfl
theorem dL_law_1360 : decode cL_law 1360 = .ok (.aload_n 0, 1) := dk_42 hN_cL_law rfl rfl
theorem dL_law_1361 : decode cL_law 1361 = .ok (.iload 4, 2) := dk_21 hN_cL_law rfl rfl rfl
theorem dL_law_1363 : decode cL_law 1363 = .ok (.iconst 2, 1) := dk_5 hN_cL_law rfl rfl
theorem dL_law_1364 : decode cL_law 1364 = .ok (.iadd, 1) := dk_96 hN_cL_law rfl rfl
theorem dL_law_1365 : decode cL_law 1365 = .ok (.iaload, 1) := dk_46 hN_cL_law rfl rfl
theorem dL_law_1366 : decode cL_law 1366 = .ok (.invokevirtual 201, 3) := dk_182 hN_cL_law rfl rfl rfl
theorem dL_law_1369 : decode cL_law 1369 = .ok (.pop, 1) := dk_87 hN_cL_law rfl rfl
theorem dL_law_1370 : decode cL_law 1370 = .ok (.aload_n 2, 1) := dk_44 hN_cL_law rfl rfl
theorem dL_law_1371 : decode cL_law 1371 = .ok (.aload_n 0, 1) := dk_42 hN_cL_law rfl rfl
theorem dL_law_1372 : decode cL_law 1372 = .ok (.iload 4, 2) := dk_21 hN_cL_law rfl rfl rfl
theorem dL_law_1374 : decode cL_law 1374 = .ok (.iconst 1, 1) := dk_4 hN_cL_law rfl rfl
theorem dL_law_1375 : decode cL_law 1375 = .ok (.iadd, 1) := dk_96 hN_cL_law rfl rfl
theorem dL_law_1376 : decode cL_law 1376 = .ok (.iaload, 1) := dk_46 hN_cL_law rfl rfl
theorem dL_law_1377 : decode cL_law 1377 = .ok (.aload_n 0, 1) := dk_42 hN_cL_law rfl rfl
theorem dL_law_1378 : decode cL_law 1378 = .ok (.iload 4, 2) := dk_21 hN_cL_law rfl rfl rfl
theorem dL_law_1380 : decode cL_law 1380 = .ok (.iconst 2, 1) := dk_5 hN_cL_law rfl rfl
theorem dL_law_1381 : decode cL_law 1381 = .ok (.iadd, 1) := dk_96 hN_cL_law rfl rfl
theorem dL_law_1382 : decode cL_law 1382 = .ok (.iaload, 1) := dk_46 hN_cL_law rfl rfl
theorem dL_law_1383 : decode cL_law 1383 = .ok (.invokevirtual 204, 3) := dk_182 hN_cL_law rfl rfl rfl
theorem dL_law_1386 : decode cL_law 1386 = .ok (.pop, 1) := dk_87 hN_cL_law rfl rfl
theorem dL_law_1387 : decode cL_law 1387 = .ok (.goto 196, 3) := dk_167 hN_cL_law rfl rfl rfl
theorem dL_law_1390 : decode cL_law 1390 = .ok (.aload_n 1, 1) := dk_43 hN_cL_law rfl rfl
theorem dL_law_1391 : decode cL_law 1391 = .ok (.aload_n 0, 1) := dk_42 hN_cL_law rfl rfl
theorem dL_law_1392 : decode cL_law 1392 = .ok (.iload 4, 2) := dk_21 hN_cL_law rfl rfl rfl
theorem dL_law_1394 : decode cL_law 1394 = .ok (.iconst 1, 1) := dk_4 hN_cL_law rfl rfl
theorem dL_law_1395 : decode cL_law 1395 = .ok (.iadd, 1) := dk_96 hN_cL_law rfl rfl
theorem dL_law_1396 : decode cL_law 1396 = .ok (.iaload, 1) := dk_46 hN_cL_law rfl rfl
theorem dL_law_1397 : decode cL_law 1397 = .ok (.aload_n 0, 1) := dk_42 hN_cL_law rfl rfl
theorem dL_law_1398 : decode cL_law 1398 = .ok (.iload 4, 2) := dk_21 hN_cL_law rfl rfl rfl
theorem dL_law_1400 : decode cL_law 1400 = .ok (.iconst 2, 1) := dk_5 hN_cL_law rfl rfl
theorem dL_law_1401 : decode cL_law 1401 = .ok (.iadd, 1) := dk_96 hN_cL_law rfl rfl
theorem dL_law_1402 : decode cL_law 1402 = .ok (.iaload, 1) := dk_46 hN_cL_law rfl rfl
theorem dL_law_1403 : decode cL_law 1403 = .ok (.invokevirtual 205, 3) := dk_182 hN_cL_law rfl rfl rfl
theorem dL_law_1406 : decode cL_law 1406 = .ok (.pop, 1) := dk_87 hN_cL_law rfl rfl
theorem dL_law_1407 : decode cL_law 1407 = .ok (.aload_n 2, 1) := dk_44 hN_cL_law rfl rfl
theorem dL_law_1408 : decode cL_law 1408 = .ok (.aload_n 0, 1) := dk_42 hN_cL_law rfl rfl
theorem dL_law_1409 : decode cL_law 1409 = .ok (.iload 4, 2) := dk_21 hN_cL_law rfl rfl rfl
theorem dL_law_1411 : decode cL_law 1411 = .ok (.iconst 1, 1) := dk_4 hN_cL_law rfl rfl
theorem dL_law_1412 : decode cL_law 1412 = .ok (.iadd, 1) := dk_96 hN_cL_law rfl rfl
theorem dL_law_1413 : decode cL_law 1413 = .ok (.iaload, 1) := dk_46 hN_cL_law rfl rfl
theorem dL_law_1414 : decode cL_law 1414 = .ok (.aload_n 0, 1) := dk_42 hN_cL_law rfl rfl
theorem dL_law_1415 : decode cL_law 1415 = .ok (.iload 4, 2) := dk_21 hN_cL_law rfl rfl rfl
theorem dL_law_1417 : decode cL_law 1417 = .ok (.iconst 2, 1) := dk_5 hN_cL_law rfl rfl
theorem dL_law_1418 : decode cL_law 1418 = .ok (.iadd, 1) := dk_96 hN_cL_law rfl rfl
theorem dL_law_1419 : decode cL_law 1419 = .ok (.iaload, 1) := dk_46 hN_cL_law rfl rfl
theorem dL_law_1420 : decode cL_law 1420 = .ok (.invokevirtual 208, 3) := dk_182 hN_cL_law rfl rfl rfl
theorem dL_law_1423 : decode cL_law 1423 = .ok (.pop, 1) := dk_87 hN_cL_law rfl rfl
theorem dL_law_1424 : decode cL_law 1424 = .ok (.goto 159, 3) := dk_167 hN_cL_law rfl rfl rfl
theorem dL_law_1427 : decode cL_law 1427 = .ok (.aload_n 1, 1) := dk_43 hN_cL_law rfl rfl
theorem dL_law_1428 : decode cL_law 1428 = .ok (.aload_n 0, 1) := dk_42 hN_cL_law rfl rfl
theorem dL_law_1429 : decode cL_law 1429 = .ok (.iload 4, 2) := dk_21 hN_cL_law rfl rfl rfl
theorem dL_law_1431 : decode cL_law 1431 = .ok (.iconst 1, 1) := dk_4 hN_cL_law rfl rfl
theorem dL_law_1432 : decode cL_law 1432 = .ok (.iadd, 1) := dk_96 hN_cL_law rfl rfl
theorem dL_law_1433 : decode cL_law 1433 = .ok (.iaload, 1) := dk_46 hN_cL_law rfl rfl
theorem dL_law_1434 : decode cL_law 1434 = .ok (.aload_n 0, 1) := dk_42 hN_cL_law rfl rfl
theorem dL_law_1435 : decode cL_law 1435 = .ok (.iload 4, 2) := dk_21 hN_cL_law rfl rfl rfl
theorem dL_law_1437 : decode cL_law 1437 = .ok (.iconst 2, 1) := dk_5 hN_cL_law rfl rfl
theorem dL_law_1438 : decode cL_law 1438 = .ok (.iadd, 1) := dk_96 hN_cL_law rfl rfl
theorem dL_law_1439 : decode cL_law 1439 = .ok (.iaload, 1) := dk_46 hN_cL_law rfl rfl
theorem dL_law_1440 : decode cL_law 1440 = .ok (.ifCond .eq 7, 3) := dk_153 hN_cL_law rfl rfl rfl
theorem dL_law_1447 : decode cL_law 1447 = .ok (.iconst 0, 1) := dk_3 hN_cL_law rfl rfl
theorem dL_law_1443 : decode cL_law 1443 = .ok (.iconst 1, 1) := dk_4 hN_cL_law rfl rfl
theorem dL_law_1444 : decode cL_law 1444 = .ok (.goto 4, 3) := dk_167 hN_cL_law rfl rfl rfl
theorem dL_law_1448 : decode cL_law 1448 = .ok (.invokevirtual 209, 3) := dk_182 hN_cL_law rfl rfl rfl
theorem dL_law_1451 : decode cL_law 1451 = .ok (.pop, 1) := dk_87 hN_cL_law rfl rfl
theorem dL_law_1452 : decode cL_law 1452 = .ok (.aload_n 2, 1) := dk_44 hN_cL_law rfl rfl
theorem dL_law_1453 : decode cL_law 1453 = .ok (.aload_n 0, 1) := dk_42 hN_cL_law rfl rfl
theorem dL_law_1454 : decode cL_law 1454 = .ok (.iload 4, 2) := dk_21 hN_cL_law rfl rfl rfl
theorem dL_law_1456 : decode cL_law 1456 = .ok (.iconst 1, 1) := dk_4 hN_cL_law rfl rfl
theorem dL_law_1457 : decode cL_law 1457 = .ok (.iadd, 1) := dk_96 hN_cL_law rfl rfl
theorem dL_law_1458 : decode cL_law 1458 = .ok (.iaload, 1) := dk_46 hN_cL_law rfl rfl
theorem dL_law_1459 : decode cL_law 1459 = .ok (.aload_n 0, 1) := dk_42 hN_cL_law rfl rfl
theorem dL_law_1460 : decode cL_law 1460 = .ok (.iload 4, 2) := dk_21 hN_cL_law rfl rfl rfl
theorem dL_law_1462 : decode cL_law 1462 = .ok (.iconst 2, 1) := dk_5 hN_cL_law rfl rfl
theorem dL_law_1463 : decode cL_law 1463 = .ok (.iadd, 1) := dk_96 hN_cL_law rfl rfl
theorem dL_law_1464 : decode cL_law 1464 = .ok (.iaload, 1) := dk_46 hN_cL_law rfl rfl
theorem dL_law_1465 : decode cL_law 1465 = .ok (.ifCond .eq 7, 3) := dk_153 hN_cL_law rfl rfl rfl
theorem dL_law_1472 : decode cL_law 1472 = .ok (.iconst 0, 1) := dk_3 hN_cL_law rfl rfl
theorem dL_law_1468 : decode cL_law 1468 = .ok (.iconst 1, 1) := dk_4 hN_cL_law rfl rfl
theorem dL_law_1469 : decode cL_law 1469 = .ok (.goto 4, 3) := dk_167 hN_cL_law rfl rfl rfl
theorem dL_law_1473 : decode cL_law 1473 = .ok (.invokevirtual 213, 3) := dk_182 hN_cL_law rfl rfl rfl
theorem dL_law_1476 : decode cL_law 1476 = .ok (.pop, 1) := dk_87 hN_cL_law rfl rfl
theorem dL_law_1477 : decode cL_law 1477 = .ok (.goto 106, 3) := dk_167 hN_cL_law rfl rfl rfl
theorem dL_law_1480 : decode cL_law 1480 = .ok (.aload_n 1, 1) := dk_43 hN_cL_law rfl rfl
theorem dL_law_1481 : decode cL_law 1481 = .ok (.aload_n 0, 1) := dk_42 hN_cL_law rfl rfl
theorem dL_law_1482 : decode cL_law 1482 = .ok (.iload 4, 2) := dk_21 hN_cL_law rfl rfl rfl
theorem dL_law_1484 : decode cL_law 1484 = .ok (.iconst 1, 1) := dk_4 hN_cL_law rfl rfl
theorem dL_law_1485 : decode cL_law 1485 = .ok (.iadd, 1) := dk_96 hN_cL_law rfl rfl
theorem dL_law_1486 : decode cL_law 1486 = .ok (.iaload, 1) := dk_46 hN_cL_law rfl rfl
theorem dL_law_1487 : decode cL_law 1487 = .ok (.aload_n 0, 1) := dk_42 hN_cL_law rfl rfl
theorem dL_law_1488 : decode cL_law 1488 = .ok (.iload 4, 2) := dk_21 hN_cL_law rfl rfl rfl
theorem dL_law_1490 : decode cL_law 1490 = .ok (.iconst 2, 1) := dk_5 hN_cL_law rfl rfl
theorem dL_law_1491 : decode cL_law 1491 = .ok (.iadd, 1) := dk_96 hN_cL_law rfl rfl
theorem dL_law_1492 : decode cL_law 1492 = .ok (.iaload, 1) := dk_46 hN_cL_law rfl rfl
theorem dL_law_1493 : decode cL_law 1493 = .ok (.invokevirtual 214, 3) := dk_182 hN_cL_law rfl rfl rfl
theorem dL_law_1496 : decode cL_law 1496 = .ok (.pop, 1) := dk_87 hN_cL_law rfl rfl
theorem dL_law_1497 : decode cL_law 1497 = .ok (.aload_n 2, 1) := dk_44 hN_cL_law rfl rfl
theorem dL_law_1498 : decode cL_law 1498 = .ok (.aload_n 0, 1) := dk_42 hN_cL_law rfl rfl
theorem dL_law_1499 : decode cL_law 1499 = .ok (.iload 4, 2) := dk_21 hN_cL_law rfl rfl rfl
theorem dL_law_1501 : decode cL_law 1501 = .ok (.iconst 1, 1) := dk_4 hN_cL_law rfl rfl
theorem dL_law_1502 : decode cL_law 1502 = .ok (.iadd, 1) := dk_96 hN_cL_law rfl rfl
theorem dL_law_1503 : decode cL_law 1503 = .ok (.iaload, 1) := dk_46 hN_cL_law rfl rfl
theorem dL_law_1504 : decode cL_law 1504 = .ok (.aload_n 0, 1) := dk_42 hN_cL_law rfl rfl
theorem dL_law_1505 : decode cL_law 1505 = .ok (.iload 4, 2) := dk_21 hN_cL_law rfl rfl rfl
theorem dL_law_1507 : decode cL_law 1507 = .ok (.iconst 2, 1) := dk_5 hN_cL_law rfl rfl
theorem dL_law_1508 : decode cL_law 1508 = .ok (.iadd, 1) := dk_96 hN_cL_law rfl rfl
theorem dL_law_1509 : decode cL_law 1509 = .ok (.iaload, 1) := dk_46 hN_cL_law rfl rfl
theorem dL_law_1510 : decode cL_law 1510 = .ok (.invokevirtual 217, 3) := dk_182 hN_cL_law rfl rfl rfl
theorem dL_law_1513 : decode cL_law 1513 = .ok (.pop, 1) := dk_87 hN_cL_law rfl rfl
theorem dL_law_1514 : decode cL_law 1514 = .ok (.goto 69, 3) := dk_167 hN_cL_law rfl rfl rfl
theorem dL_law_1545 : decode cL_law 1545 = .ok (.aload_n 1, 1) := dk_43 hN_cL_law rfl rfl
theorem dL_law_1546 : decode cL_law 1546 = .ok (.aload_n 0, 1) := dk_42 hN_cL_law rfl rfl
theorem dL_law_1547 : decode cL_law 1547 = .ok (.iload 4, 2) := dk_21 hN_cL_law rfl rfl rfl
theorem dL_law_1549 : decode cL_law 1549 = .ok (.iconst 1, 1) := dk_4 hN_cL_law rfl rfl
theorem dL_law_1550 : decode cL_law 1550 = .ok (.iadd, 1) := dk_96 hN_cL_law rfl rfl
theorem dL_law_1551 : decode cL_law 1551 = .ok (.iaload, 1) := dk_46 hN_cL_law rfl rfl
theorem dL_law_1552 : decode cL_law 1552 = .ok (.invokevirtual 224, 3) := dk_182 hN_cL_law rfl rfl rfl
theorem dL_law_1555 : decode cL_law 1555 = .ok (.pop, 1) := dk_87 hN_cL_law rfl rfl
theorem dL_law_1556 : decode cL_law 1556 = .ok (.aload_n 2, 1) := dk_44 hN_cL_law rfl rfl
theorem dL_law_1557 : decode cL_law 1557 = .ok (.aload_n 0, 1) := dk_42 hN_cL_law rfl rfl
theorem dL_law_1558 : decode cL_law 1558 = .ok (.iload 4, 2) := dk_21 hN_cL_law rfl rfl rfl
theorem dL_law_1560 : decode cL_law 1560 = .ok (.iconst 1, 1) := dk_4 hN_cL_law rfl rfl
theorem dL_law_1561 : decode cL_law 1561 = .ok (.iadd, 1) := dk_96 hN_cL_law rfl rfl
theorem dL_law_1562 : decode cL_law 1562 = .ok (.iaload, 1) := dk_46 hN_cL_law rfl rfl
theorem dL_law_1563 : decode cL_law 1563 = .ok (.invokevirtual 227, 3) := dk_182 hN_cL_law rfl rfl rfl
theorem dL_law_1566 : decode cL_law 1566 = .ok (.pop, 1) := dk_87 hN_cL_law rfl rfl
theorem dL_law_1567 : decode cL_law 1567 = .ok (.goto 16, 3) := dk_167 hN_cL_law rfl rfl rfl
theorem dL_law_1570 : decode cL_law 1570 = .ok (.aload_n 1, 1) := dk_43 hN_cL_law rfl rfl
theorem dL_law_1571 : decode cL_law 1571 = .ok (.invokevirtual 228, 3) := dk_182 hN_cL_law rfl rfl rfl
theorem dL_law_1574 : decode cL_law 1574 = .ok (.pop, 1) := dk_87 hN_cL_law rfl rfl
theorem dL_law_1575 : decode cL_law 1575 = .ok (.aload_n 2, 1) := dk_44 hN_cL_law rfl rfl
theorem dL_law_1576 : decode cL_law 1576 = .ok (.invokevirtual 231, 3) := dk_182 hN_cL_law rfl rfl rfl
theorem dL_law_1579 : decode cL_law 1579 = .ok (.pop, 1) := dk_87 hN_cL_law rfl rfl
theorem dL_law_1580 : decode cL_law 1580 = .ok (.goto 3, 3) := dk_167 hN_cL_law rfl rfl rfl
theorem dL_law_23 : decode cL_law 23 = .ok (.iload 4, 2) := dk_21 hN_cL_law rfl rfl rfl
theorem dL_law_25 : decode cL_law 25 = .ok (.aload_n 0, 1) := dk_42 hN_cL_law rfl rfl
theorem dL_law_26 : decode cL_law 26 = .ok (.arraylength, 1) := dk_190 hN_cL_law rfl rfl
theorem dL_law_27 : decode cL_law 27 = .ok (.bipush 7, 2) := dk_16 hN_cL_law rfl rfl rfl
theorem dL_law_29 : decode cL_law 29 = .ok (.isub, 1) := dk_100 hN_cL_law rfl rfl
theorem dL_law_30 : decode cL_law 30 = .ok (.if_icmp .gt 1559, 3) := dk_163 hN_cL_law rfl rfl rfl
theorem dL_law_33 : decode cL_law 33 = .ok (.aload_n 0, 1) := dk_42 hN_cL_law rfl rfl
theorem dL_law_34 : decode cL_law 34 = .ok (.iload 4, 2) := dk_21 hN_cL_law rfl rfl rfl
theorem dL_law_36 : decode cL_law 36 = .ok (.iaload, 1) := dk_46 hN_cL_law rfl rfl
theorem dL_law_37 : decode cL_law 37 = .ok (.bipush 63, 2) := dk_16 hN_cL_law rfl rfl rfl
theorem dL_law_39 : decode cL_law 39 = .ok (.iand, 1) := dk_126 hN_cL_law rfl rfl
theorem dL_law_40 : decode cL_law 40 = .ok (.tableswitch 1543 0 49 #[216, 289, 314, 327, 340, 381, 500, 537, 550, 563, 588, 601, 626, 639, 664, 689, 702, 751, 764, 777, 790, 803, 844, 857, 882, 895, 920, 933, 970, 983, 996, 1009, 1022, 1035, 1048, 1113, 1138, 1163, 1188, 1249, 1262, 1275, 1288, 1313, 1350, 1387, 1440, 1477, 1505, 1530], 216) := by decide +kernel
theorem dL_law_1583 : decode cL_law 1583 = .ok (.iinc 4 7, 3) := dk_132 hN_cL_law rfl rfl rfl rfl
theorem dL_law_1586 : decode cL_law 1586 = .ok (.goto (-1563), 3) := dk_167 hN_cL_law rfl rfl rfl
theorem dL_law_1589 : decode cL_law 1589 = .ok (.iconst 1, 1) := dk_4 hN_cL_law rfl rfl
theorem dL_law_1590 : decode cL_law 1590 = .ok (.ireturn, 1) := dk_172 hN_cL_law rfl rfl
theorem dL_law_1517 : decode cL_law 1517 = .ok (.aload_n 1, 1) := dk_43 hN_cL_law rfl rfl
theorem dL_law_1518 : decode cL_law 1518 = .ok (.aload_n 0, 1) := dk_42 hN_cL_law rfl rfl
theorem dL_law_1519 : decode cL_law 1519 = .ok (.iload 4, 2) := dk_21 hN_cL_law rfl rfl rfl
theorem dL_law_1521 : decode cL_law 1521 = .ok (.iconst 1, 1) := dk_4 hN_cL_law rfl rfl
theorem dL_law_1522 : decode cL_law 1522 = .ok (.iadd, 1) := dk_96 hN_cL_law rfl rfl
theorem dL_law_1523 : decode cL_law 1523 = .ok (.iaload, 1) := dk_46 hN_cL_law rfl rfl
theorem dL_law_1524 : decode cL_law 1524 = .ok (.aload_n 3, 1) := dk_45 hN_cL_law rfl rfl
theorem dL_law_1525 : decode cL_law 1525 = .ok (.invokestatic 218, 3) := dk_184 hN_cL_law rfl rfl rfl
theorem dL_law_1528 : decode cL_law 1528 = .ok (.istore 5, 2) := dk_54 hN_cL_law rfl rfl rfl
theorem dL_law_1530 : decode cL_law 1530 = .ok (.aload_n 2, 1) := dk_44 hN_cL_law rfl rfl
theorem dL_law_1531 : decode cL_law 1531 = .ok (.aload_n 0, 1) := dk_42 hN_cL_law rfl rfl
theorem dL_law_1532 : decode cL_law 1532 = .ok (.iload 4, 2) := dk_21 hN_cL_law rfl rfl rfl
theorem dL_law_1534 : decode cL_law 1534 = .ok (.iconst 1, 1) := dk_4 hN_cL_law rfl rfl
theorem dL_law_1535 : decode cL_law 1535 = .ok (.iadd, 1) := dk_96 hN_cL_law rfl rfl
theorem dL_law_1536 : decode cL_law 1536 = .ok (.iaload, 1) := dk_46 hN_cL_law rfl rfl
theorem dL_law_1537 : decode cL_law 1537 = .ok (.invokevirtual 223, 3) := dk_182 hN_cL_law rfl rfl rfl
theorem dL_law_1540 : decode cL_law 1540 = .ok (.istore 6, 2) := dk_54 hN_cL_law rfl rfl rfl
theorem dL_law_1542 : decode cL_law 1542 = .ok (.goto 41, 3) := dk_167 hN_cL_law rfl rfl rfl
