set_option maxRecDepth 20000 in
theorem tw_920 : Cond.selects RX11 yX11_sameOf yX11_sameOf ∈ lw_tbl := ts_6 (q := (yX11_sameOf, 40)) (List.mem_of_getElem? (i := 11) rfl)
set_option maxRecDepth 20000 in
theorem tw_921 : Cond.instanceMethod yX11_sameOf ∈ lw_tbl := tk_7 (j := 220) rfl
set_option maxRecDepth 20000 in
theorem tw_922 : Cond.methodLink RX11 317 yX11_sameOf ∈ lw_tbl := tk_7 (j := 218) rfl
set_option maxRecDepth 20000 in
theorem tw_923 : Cond.code yX11_within cX11_within 3 (some .boolean) ∈ lw_tbl := tk_6 (j := 230) rfl
set_option maxRecDepth 20000 in
theorem tw_924 : Cond.static yX11_within ∈ lw_tbl := tk_6 (j := 229) rfl
set_option maxRecDepth 20000 in
theorem tw_925 : Cond.methodLink RX11 170 yX11_within ∈ lw_tbl := tk_6 (j := 228) rfl
set_option maxRecDepth 20000 in
theorem tw_926 : Cond.code yX11_isSet cX11_isSet 2 (some .boolean) ∈ lw_tbl := tk_7 (j := 181) rfl
set_option maxRecDepth 20000 in
theorem tw_927 : Cond.selects RX11 yX11_isSet yX11_isSet ∈ lw_tbl := ts_6 (q := (yX11_isSet, 40)) (List.mem_of_getElem? (i := 6) rfl)
set_option maxRecDepth 20000 in
theorem tw_928 : Cond.instanceMethod yX11_isSet ∈ lw_tbl := tk_7 (j := 180) rfl
set_option maxRecDepth 20000 in
theorem tw_929 : Cond.methodLink RX11 244 yX11_isSet ∈ lw_tbl := tk_7 (j := 178) rfl
set_option maxRecDepth 20000 in
theorem tw_930 : Cond.selects RX11 yX11_same yX11_same ∈ lw_tbl := tk_7 (j := 216) rfl
set_option maxRecDepth 20000 in
theorem tw_931 : Cond.instanceMethod yX11_same ∈ lw_tbl := tk_7 (j := 215) rfl
set_option maxRecDepth 20000 in
theorem tw_932 : Cond.methodLink RL 71 yX11_same ∈ lw_tbl := tk_7 (j := 214) rfl
set_option maxRecDepth 20000 in
theorem tw_933 : Cond.code yX10_cycles cX10_cycles 1 (some .int) ∈ lw_tbl := tk_4 (j := 158) rfl
set_option maxRecDepth 20000 in
theorem tw_934 : Cond.code yX7_isRing cX7_isRing 7 (some .boolean) ∈ lw_tbl := tk_4 (j := 166) rfl
set_option maxRecDepth 20000 in
theorem tw_935 : Cond.selects RX7 yX7_isRing yX7_isRing ∈ lw_tbl := tk_4 (j := 165) rfl
set_option maxRecDepth 20000 in
theorem tw_936 : Cond.instanceMethod yX7_isRing ∈ lw_tbl := tk_4 (j := 164) rfl
set_option maxRecDepth 20000 in
theorem tw_937 : Cond.methodLink RX7 45 yX7_isRing ∈ lw_tbl := tk_4 (j := 163) rfl
set_option maxRecDepth 20000 in
theorem tw_938 : Cond.fieldLink RX7 15 "NotAtOnce$Table" "count" "I" ∈ lw_tbl := tk_1 (j := 180) rfl
set_option maxRecDepth 20000 in
theorem tw_939 : Cond.code yX7_number cX7_number 3 (some .int) ∈ lw_tbl := tk_4 (j := 162) rfl
set_option maxRecDepth 20000 in
theorem tw_940 : Cond.selects RX7 yX7_number yX7_number ∈ lw_tbl := tk_4 (j := 161) rfl
set_option maxRecDepth 20000 in
theorem tw_941 : Cond.instanceMethod yX7_number ∈ lw_tbl := tk_4 (j := 160) rfl
set_option maxRecDepth 20000 in
theorem tw_942 : Cond.methodLink RX10 182 yX7_number ∈ lw_tbl := tk_4 (j := 159) rfl
set_option maxRecDepth 20000 in
theorem tw_943 : Cond.fieldLink RX7 42 "NotAtOnce$Table" "second" "[I" ∈ lw_tbl := tk_1 (j := 189) rfl
set_option maxRecDepth 20000 in
theorem tw_944 : Cond.fieldLink RX7 38 "NotAtOnce$Table" "first" "[I" ∈ lw_tbl := tk_1 (j := 186) rfl
set_option maxRecDepth 20000 in
theorem tw_945 : Cond.code yX7_looksOf cX7_looksOf 2 (some .int) ∈ lw_tbl := tk_4 (j := 172) rfl
set_option maxRecDepth 20000 in
theorem tw_946 : Cond.selects RX7 yX7_looksOf yX7_looksOf ∈ lw_tbl := ts_3 (q := (yX7_looksOf, 1)) (List.mem_of_getElem? (i := 8) rfl)
set_option maxRecDepth 20000 in
theorem tw_947 : Cond.instanceMethod yX7_looksOf ∈ lw_tbl := tk_4 (j := 171) rfl
set_option maxRecDepth 20000 in
theorem tw_948 : Cond.methodLink RX7 31 yX7_looksOf ∈ lw_tbl := tk_4 (j := 169) rfl
set_option maxRecDepth 20000 in
theorem tw_949 : Cond.code yX8_hasPair cX8_hasPair 2 (some .boolean) ∈ lw_tbl := tk_4 (j := 150) rfl
set_option maxRecDepth 20000 in
theorem tw_950 : Cond.selects RX8 yX8_hasPair yX8_hasPair ∈ lw_tbl := tk_4 (j := 149) rfl
set_option maxRecDepth 20000 in
theorem tw_951 : Cond.instanceMethod yX8_hasPair ∈ lw_tbl := tk_4 (j := 148) rfl
set_option maxRecDepth 20000 in
theorem tw_952 : Cond.methodLink RX7 27 yX8_hasPair ∈ lw_tbl := tk_4 (j := 168) rfl
set_option maxRecDepth 20000 in
theorem tw_953 : Cond.methodLink RX7 21 yJ6_bitCount_0f7a4 ∈ lw_tbl := tk_4 (j := 167) rfl
set_option maxRecDepth 20000 in
theorem tw_954 : Cond.code yX7_hangsTogether cX7_hangsTogether 6 (some .boolean) ∈ lw_tbl := tk_4 (j := 176) rfl
set_option maxRecDepth 20000 in
theorem tw_955 : Cond.selects RX7 yX7_hangsTogether yX7_hangsTogether ∈ lw_tbl := ts_3 (q := (yX7_hangsTogether, 1)) (List.mem_of_getElem? (i := 9) rfl)
set_option maxRecDepth 20000 in
theorem tw_956 : Cond.instanceMethod yX7_hangsTogether ∈ lw_tbl := tk_4 (j := 175) rfl
set_option maxRecDepth 20000 in
theorem tw_957 : Cond.methodLink RX7 34 yX7_hangsTogether ∈ lw_tbl := tk_4 (j := 173) rfl
set_option maxRecDepth 20000 in
theorem tw_958 : Cond.selects RX10 yX10_cycles yX10_cycles ∈ lw_tbl := tk_4 (j := 157) rfl
set_option maxRecDepth 20000 in
theorem tw_959 : Cond.instanceMethod yX10_cycles ∈ lw_tbl := tk_4 (j := 156) rfl
set_option maxRecDepth 20000 in
theorem tw_960 : Cond.methodLink RL 72 yX10_cycles ∈ lw_tbl := tk_4 (j := 155) rfl
set_option maxRecDepth 20000 in
theorem tw_961 : Cond.code yX11_cycles cX11_cycles 1 (some .int) ∈ lw_tbl := tk_7 (j := 229) rfl
set_option maxRecDepth 20000 in
theorem tw_962 : Cond.code yX11_bits cX11_bits 3 (some .int) ∈ lw_tbl := tk_8 (j := 0) rfl
set_option maxRecDepth 20000 in
theorem tw_963 : Cond.static yX11_bits ∈ lw_tbl := tk_7 (j := 239) rfl
set_option maxRecDepth 20000 in
theorem tw_964 : Cond.methodLink RX11 323 yX11_bits ∈ lw_tbl := tk_7 (j := 238) rfl
set_option maxRecDepth 20000 in
theorem tw_965 : Cond.code yX11_isCycle cX11_isCycle 8 (some .boolean) ∈ lw_tbl := tk_7 (j := 237) rfl
set_option maxRecDepth 20000 in
theorem tw_966 : Cond.selects RX11 yX11_isCycle yX11_isCycle ∈ lw_tbl := ts_6 (q := (yX11_isCycle, 40)) (List.mem_of_getElem? (i := 14) rfl)
set_option maxRecDepth 20000 in
theorem tw_967 : Cond.instanceMethod yX11_isCycle ∈ lw_tbl := tk_7 (j := 236) rfl
set_option maxRecDepth 20000 in
theorem tw_968 : Cond.methodLink RX11 326 yX11_isCycle ∈ lw_tbl := tk_7 (j := 234) rfl
set_option maxRecDepth 20000 in
theorem tw_969 : Cond.code yX11_cycleOf cX11_cycleOf 4 (some .int) ∈ lw_tbl := tk_7 (j := 233) rfl
set_option maxRecDepth 20000 in
theorem tw_970 : Cond.selects RX11 yX11_cycleOf yX11_cycleOf ∈ lw_tbl := ts_6 (q := (yX11_cycleOf, 40)) (List.mem_of_getElem? (i := 13) rfl)
set_option maxRecDepth 20000 in
theorem tw_971 : Cond.instanceMethod yX11_cycleOf ∈ lw_tbl := tk_7 (j := 232) rfl
set_option maxRecDepth 20000 in
theorem tw_972 : Cond.methodLink RX11 329 yX11_cycleOf ∈ lw_tbl := tk_7 (j := 230) rfl
set_option maxRecDepth 20000 in
theorem tw_973 : Cond.selects RX11 yX11_cycles yX11_cycles ∈ lw_tbl := tk_7 (j := 228) rfl
set_option maxRecDepth 20000 in
theorem tw_974 : Cond.instanceMethod yX11_cycles ∈ lw_tbl := tk_7 (j := 227) rfl
set_option maxRecDepth 20000 in
theorem tw_975 : Cond.methodLink RL 75 yX11_cycles ∈ lw_tbl := tk_7 (j := 226) rfl
set_option maxRecDepth 20000 in
theorem tw_976 : Cond.code yX10_cycle cX10_cycle 3 (some .int) ∈ lw_tbl := tk_4 (j := 180) rfl
set_option maxRecDepth 20000 in
theorem tw_977 : Cond.code yX7_ringAt cX7_ringAt 4 (some .int) ∈ lw_tbl := tk_4 (j := 184) rfl
set_option maxRecDepth 20000 in
theorem tw_978 : Cond.selects RX7 yX7_ringAt yX7_ringAt ∈ lw_tbl := tk_4 (j := 183) rfl
set_option maxRecDepth 20000 in
theorem tw_979 : Cond.instanceMethod yX7_ringAt ∈ lw_tbl := tk_4 (j := 182) rfl
set_option maxRecDepth 20000 in
theorem tw_980 : Cond.methodLink RX10 185 yX7_ringAt ∈ lw_tbl := tk_4 (j := 181) rfl
set_option maxRecDepth 20000 in
theorem tw_981 : Cond.selects RX10 yX10_cycle yX10_cycle ∈ lw_tbl := tk_4 (j := 179) rfl
set_option maxRecDepth 20000 in
theorem tw_982 : Cond.instanceMethod yX10_cycle ∈ lw_tbl := tk_4 (j := 178) rfl
set_option maxRecDepth 20000 in
theorem tw_983 : Cond.methodLink RL 76 yX10_cycle ∈ lw_tbl := tk_4 (j := 177) rfl
set_option maxRecDepth 20000 in
theorem tw_984 : Cond.code yX11_cycle cX11_cycle 3 (some .int) ∈ lw_tbl := tk_8 (j := 4) rfl
set_option maxRecDepth 20000 in
theorem tw_985 : Cond.selects RX11 yX11_cycle yX11_cycle ∈ lw_tbl := tk_8 (j := 3) rfl
set_option maxRecDepth 20000 in
theorem tw_986 : Cond.instanceMethod yX11_cycle ∈ lw_tbl := tk_8 (j := 2) rfl
set_option maxRecDepth 20000 in
theorem tw_987 : Cond.methodLink RL 79 yX11_cycle ∈ lw_tbl := tk_8 (j := 1) rfl
set_option maxRecDepth 20000 in
theorem tw_988 : Cond.code yX10_excess cX10_excess 2 (some .int) ∈ lw_tbl := tk_4 (j := 188) rfl
set_option maxRecDepth 20000 in
theorem tw_989 : Cond.methodLink RX10 188 yX7_isRing ∈ lw_tbl := tk_4 (j := 189) rfl
set_option maxRecDepth 20000 in
theorem tw_990 : Cond.code yX7_surplus cX7_surplus 7 (some .int) ∈ lw_tbl := tk_4 (j := 193) rfl
set_option maxRecDepth 20000 in
theorem tw_991 : Cond.selects RX7 yX7_surplus yX7_surplus ∈ lw_tbl := tk_4 (j := 192) rfl
set_option maxRecDepth 20000 in
theorem tw_992 : Cond.instanceMethod yX7_surplus ∈ lw_tbl := tk_4 (j := 191) rfl
set_option maxRecDepth 20000 in
theorem tw_993 : Cond.methodLink RX10 191 yX7_surplus ∈ lw_tbl := tk_4 (j := 190) rfl
set_option maxRecDepth 20000 in
theorem tw_994 : Cond.code yX8_alike cX8_alike 3 (some .int) ∈ lw_tbl := tk_4 (j := 154) rfl
set_option maxRecDepth 20000 in
theorem tw_995 : Cond.selects RX8 yX8_alike yX8_alike ∈ lw_tbl := tk_4 (j := 153) rfl
set_option maxRecDepth 20000 in
theorem tw_996 : Cond.instanceMethod yX8_alike ∈ lw_tbl := tk_4 (j := 152) rfl
set_option maxRecDepth 20000 in
theorem tw_997 : Cond.methodLink RX7 48 yX8_alike ∈ lw_tbl := tk_4 (j := 194) rfl
set_option maxRecDepth 20000 in
theorem tw_998 : Cond.fieldLink RX7 60 "NotAtOnce$Table" "law" "I" ∈ lw_tbl := tk_1 (j := 175) rfl
set_option maxRecDepth 20000 in
theorem tw_999 : Cond.methodLink RX7 56 Lib.Math.min.name ∈ lw_tbl := by decide +kernel
set_option maxRecDepth 20000 in
theorem tw_1000 : Cond.code Lib.Math.abs.name Lib.Math.abs.code 1 (some .int) ∈ lw_tbl := by decide +kernel
set_option maxRecDepth 20000 in
theorem tw_1001 : Cond.static Lib.Math.abs.name ∈ lw_tbl := by decide +kernel
set_option maxRecDepth 20000 in
theorem tw_1002 : Cond.methodLink RX7 51 Lib.Math.abs.name ∈ lw_tbl := by decide +kernel
set_option maxRecDepth 20000 in
theorem tw_1003 : Cond.selects RX10 yX10_excess yX10_excess ∈ lw_tbl := tk_4 (j := 187) rfl
set_option maxRecDepth 20000 in
theorem tw_1004 : Cond.instanceMethod yX10_excess ∈ lw_tbl := tk_4 (j := 186) rfl
set_option maxRecDepth 20000 in
theorem tw_1005 : Cond.methodLink RL 80 yX10_excess ∈ lw_tbl := tk_4 (j := 185) rfl
set_option maxRecDepth 20000 in
theorem tw_1006 : Cond.code yX11_excess cX11_excess 2 (some .int) ∈ lw_tbl := tk_8 (j := 8) rfl
set_option maxRecDepth 20000 in
theorem tw_1007 : Cond.code yX11_less cX11_less 3 (some .int) ∈ lw_tbl := tk_7 (j := 225) rfl
set_option maxRecDepth 20000 in
theorem tw_1008 : Cond.selects RX11 yX11_less yX11_less ∈ lw_tbl := ts_6 (q := (yX11_less, 40)) (List.mem_of_getElem? (i := 12) rfl)
set_option maxRecDepth 20000 in
theorem tw_1009 : Cond.instanceMethod yX11_less ∈ lw_tbl := tk_7 (j := 224) rfl
set_option maxRecDepth 20000 in
theorem tw_1010 : Cond.methodLink RX11 320 yX11_less ∈ lw_tbl := tk_7 (j := 222) rfl
set_option maxRecDepth 20000 in
theorem tw_1011 : Cond.code yX11_sameOf cX11_sameOf 3 (some .int) ∈ lw_tbl := tk_7 (j := 221) rfl
set_option maxRecDepth 20000 in
theorem tw_1012 : Cond.selects RX11 yX11_sameOf yX11_sameOf ∈ lw_tbl := ts_6 (q := (yX11_sameOf, 40)) (List.mem_of_getElem? (i := 11) rfl)
set_option maxRecDepth 20000 in
theorem tw_1013 : Cond.instanceMethod yX11_sameOf ∈ lw_tbl := tk_7 (j := 220) rfl
set_option maxRecDepth 20000 in
theorem tw_1014 : Cond.methodLink RX11 317 yX11_sameOf ∈ lw_tbl := tk_7 (j := 218) rfl
set_option maxRecDepth 20000 in
theorem tw_1015 : Cond.constant RX11 332 (-100000) ∈ lw_tbl := tk_8 (j := 13) rfl
set_option maxRecDepth 20000 in
theorem tw_1016 : Cond.code yX11_excessOf cX11_excessOf 6 (some .int) ∈ lw_tbl := tk_8 (j := 12) rfl
set_option maxRecDepth 20000 in
theorem tw_1017 : Cond.selects RX11 yX11_excessOf yX11_excessOf ∈ lw_tbl := ts_6 (q := (yX11_excessOf, 40)) (List.mem_of_getElem? (i := 15) rfl)
set_option maxRecDepth 20000 in
theorem tw_1018 : Cond.instanceMethod yX11_excessOf ∈ lw_tbl := tk_8 (j := 11) rfl
set_option maxRecDepth 20000 in
theorem tw_1019 : Cond.methodLink RX11 333 yX11_excessOf ∈ lw_tbl := tk_8 (j := 9) rfl
set_option maxRecDepth 20000 in
theorem tw_1020 : Cond.selects RX11 yX11_excess yX11_excess ∈ lw_tbl := tk_8 (j := 7) rfl
set_option maxRecDepth 20000 in
theorem tw_1021 : Cond.instanceMethod yX11_excess ∈ lw_tbl := tk_8 (j := 6) rfl
set_option maxRecDepth 20000 in
theorem tw_1022 : Cond.methodLink RL 83 yX11_excess ∈ lw_tbl := tk_8 (j := 5) rfl
set_option maxRecDepth 20000 in
theorem tw_1023 : Cond.code yX10_widest cX10_widest 1 (some .int) ∈ lw_tbl := tk_4 (j := 202) rfl
set_option maxRecDepth 20000 in
theorem tw_1024 : Cond.code yX7_greatest cX7_greatest 3 (some .int) ∈ lw_tbl := tk_4 (j := 206) rfl
set_option maxRecDepth 20000 in
theorem tw_1025 : Cond.selects RX7 yX7_greatest yX7_greatest ∈ lw_tbl := tk_4 (j := 205) rfl
set_option maxRecDepth 20000 in
theorem tw_1026 : Cond.instanceMethod yX7_greatest ∈ lw_tbl := tk_4 (j := 204) rfl
set_option maxRecDepth 20000 in
theorem tw_1027 : Cond.methodLink RX10 194 yX7_greatest ∈ lw_tbl := tk_4 (j := 203) rfl
set_option maxRecDepth 20000 in
theorem tw_1028 : Cond.methodLink RX7 63 yX7_surplus ∈ lw_tbl := tk_4 (j := 207) rfl
set_option maxRecDepth 20000 in
theorem tw_1029 : Cond.selects RX10 yX10_widest yX10_widest ∈ lw_tbl := tk_4 (j := 201) rfl
set_option maxRecDepth 20000 in
theorem tw_1030 : Cond.instanceMethod yX10_widest ∈ lw_tbl := tk_4 (j := 200) rfl
set_option maxRecDepth 20000 in
theorem tw_1031 : Cond.methodLink RL 84 yX10_widest ∈ lw_tbl := tk_4 (j := 199) rfl
set_option maxRecDepth 20000 in
theorem tw_1032 : Cond.code yX11_widest cX11_widest 5 (some .int) ∈ lw_tbl := tk_8 (j := 17) rfl
set_option maxRecDepth 20000 in
theorem tw_1033 : Cond.selects RX11 yX11_widest yX11_widest ∈ lw_tbl := tk_8 (j := 16) rfl
set_option maxRecDepth 20000 in
theorem tw_1034 : Cond.instanceMethod yX11_widest ∈ lw_tbl := tk_8 (j := 15) rfl
set_option maxRecDepth 20000 in
theorem tw_1035 : Cond.methodLink RL 87 yX11_widest ∈ lw_tbl := tk_8 (j := 14) rfl
set_option maxRecDepth 20000 in
theorem tw_1036 : Cond.code yX10_stake cX10_stake 4 (some .boolean) ∈ lw_tbl := tk_4 (j := 211) rfl
set_option maxRecDepth 20000 in
theorem tw_1037 : Cond.methodLink RX10 203 yX10_done ∈ lw_tbl := tk_4 (j := 216) rfl
set_option maxRecDepth 20000 in
theorem tw_1038 : Cond.code yX10_denied cX10_denied 2 (some .boolean) ∈ lw_tbl := tk_4 (j := 215) rfl
set_option maxRecDepth 20000 in
theorem tw_1039 : Cond.selects RX10 yX10_denied yX10_denied ∈ lw_tbl := ts_3 (q := (yX10_denied, 14)) (List.mem_of_getElem? (i := 10) rfl)
set_option maxRecDepth 20000 in
theorem tw_1040 : Cond.instanceMethod yX10_denied ∈ lw_tbl := tk_4 (j := 214) rfl
set_option maxRecDepth 20000 in
theorem tw_1041 : Cond.methodLink RX10 197 yX10_denied ∈ lw_tbl := tk_4 (j := 212) rfl
set_option maxRecDepth 20000 in
theorem tw_1042 : Cond.fieldLink RX10 200 "NotAtOnce$Table" "coins" "[I" ∈ lw_tbl := tk_1 (j := 195) rfl
set_option maxRecDepth 20000 in
theorem tw_1043 : Cond.code yX10_done cX10_done 1 (some .boolean) ∈ lw_tbl := tk_4 (j := 219) rfl
set_option maxRecDepth 20000 in
theorem tw_1044 : Cond.selects RX10 yX10_done yX10_done ∈ lw_tbl := ts_3 (q := (yX10_done, 14)) (List.mem_of_getElem? (i := 11) rfl)
set_option maxRecDepth 20000 in
theorem tw_1045 : Cond.instanceMethod yX10_done ∈ lw_tbl := tk_4 (j := 218) rfl
set_option maxRecDepth 20000 in
theorem tw_1046 : Cond.selects RX10 yX10_stake yX10_stake ∈ lw_tbl := tk_4 (j := 210) rfl
set_option maxRecDepth 20000 in
theorem tw_1047 : Cond.instanceMethod yX10_stake ∈ lw_tbl := tk_4 (j := 209) rfl
set_option maxRecDepth 20000 in
theorem tw_1048 : Cond.methodLink RL 88 yX10_stake ∈ lw_tbl := tk_4 (j := 208) rfl
set_option maxRecDepth 20000 in
theorem tw_1049 : Cond.code yX11_stake cX11_stake 4 (some .boolean) ∈ lw_tbl := tk_8 (j := 21) rfl
set_option maxRecDepth 20000 in
theorem tw_1050 : Cond.code yX11_isNot cX11_isNot 2 (some .boolean) ∈ lw_tbl := tk_8 (j := 25) rfl
set_option maxRecDepth 20000 in
theorem tw_1051 : Cond.selects RX11 yX11_isNot yX11_isNot ∈ lw_tbl := ts_7 (q := (yX11_isNot, 40)) (List.mem_of_getElem? (i := 0) rfl)
set_option maxRecDepth 20000 in
theorem tw_1052 : Cond.instanceMethod yX11_isNot ∈ lw_tbl := tk_8 (j := 24) rfl
set_option maxRecDepth 20000 in
theorem tw_1053 : Cond.methodLink RX11 336 yX11_isNot ∈ lw_tbl := tk_8 (j := 22) rfl
set_option maxRecDepth 20000 in
theorem tw_1054 : Cond.selects RX11 yX11_stake yX11_stake ∈ lw_tbl := tk_8 (j := 20) rfl
set_option maxRecDepth 20000 in
theorem tw_1055 : Cond.instanceMethod yX11_stake ∈ lw_tbl := tk_8 (j := 19) rfl
set_option maxRecDepth 20000 in
theorem tw_1056 : Cond.methodLink RL 92 yX11_stake ∈ lw_tbl := tk_8 (j := 18) rfl
set_option maxRecDepth 20000 in
theorem tw_1057 : Cond.code yX10_wins cX10_wins 1 (some .int) ∈ lw_tbl := tk_4 (j := 223) rfl
set_option maxRecDepth 20000 in
theorem tw_1058 : Cond.fieldLink RX8 21 "NotAtOnce$Table" "coins" "[I" ∈ lw_tbl := tk_1 (j := 194) rfl
set_option maxRecDepth 20000 in
theorem tw_1059 : Cond.code yX8_winnings cX8_winnings 3 (some .int) ∈ lw_tbl := tk_4 (j := 227) rfl
set_option maxRecDepth 20000 in
theorem tw_1060 : Cond.selects RX8 yX8_winnings yX8_winnings ∈ lw_tbl := tk_4 (j := 226) rfl
set_option maxRecDepth 20000 in
theorem tw_1061 : Cond.instanceMethod yX8_winnings ∈ lw_tbl := tk_4 (j := 225) rfl
set_option maxRecDepth 20000 in
theorem tw_1062 : Cond.methodLink RX10 206 yX8_winnings ∈ lw_tbl := tk_4 (j := 224) rfl
set_option maxRecDepth 20000 in
theorem tw_1063 : Cond.code yX10_refused cX10_refused 2 (some .int) ∈ lw_tbl := tk_3 (j := 2) rfl
set_option maxRecDepth 20000 in
theorem tw_1064 : Cond.selects RX10 yX10_refused yX10_refused ∈ lw_tbl := ts_1 (q := (yX10_refused, 14)) (List.mem_of_getElem? (i := 1) rfl)
set_option maxRecDepth 20000 in
theorem tw_1065 : Cond.instanceMethod yX10_refused ∈ lw_tbl := tk_3 (j := 1) rfl
set_option maxRecDepth 20000 in
theorem tw_1066 : Cond.methodLink RX10 90 yX10_refused ∈ lw_tbl := tk_2 (j := 239) rfl
set_option maxRecDepth 20000 in
theorem tw_1067 : Cond.fieldLink RX10 215 "NotAtOnce$Table" "law" "I" ∈ lw_tbl := tk_1 (j := 176) rfl
set_option maxRecDepth 20000 in
theorem tw_1068 : Cond.code yX10_noBook cX10_noBook 1 (some .boolean) ∈ lw_tbl := tk_3 (j := 232) rfl
set_option maxRecDepth 20000 in
theorem tw_1069 : Cond.selects RX10 yX10_noBook yX10_noBook ∈ lw_tbl := ts_2 (q := (yX10_noBook, 14)) (List.mem_of_getElem? (i := 12) rfl)
set_option maxRecDepth 20000 in
theorem tw_1070 : Cond.instanceMethod yX10_noBook ∈ lw_tbl := tk_3 (j := 231) rfl
set_option maxRecDepth 20000 in
theorem tw_1071 : Cond.methodLink RX10 131 yX10_noBook ∈ lw_tbl := tk_3 (j := 229) rfl
set_option maxRecDepth 20000 in
theorem tw_1072 : Cond.selects RX10 yX10_wins yX10_wins ∈ lw_tbl := tk_4 (j := 222) rfl
set_option maxRecDepth 20000 in
theorem tw_1073 : Cond.instanceMethod yX10_wins ∈ lw_tbl := tk_4 (j := 221) rfl
set_option maxRecDepth 20000 in
theorem tw_1074 : Cond.methodLink RL 93 yX10_wins ∈ lw_tbl := tk_4 (j := 220) rfl
set_option maxRecDepth 20000 in
theorem tw_1075 : Cond.code yX11_wins cX11_wins 1 (some .int) ∈ lw_tbl := tk_8 (j := 29) rfl
set_option maxRecDepth 20000 in
theorem tw_1076 : Cond.code yX11_outcomes cX11_outcomes 2 (some .int) ∈ lw_tbl := tk_7 (j := 132) rfl
set_option maxRecDepth 20000 in
theorem tw_1077 : Cond.static yX11_outcomes ∈ lw_tbl := tk_7 (j := 131) rfl
set_option maxRecDepth 20000 in
theorem tw_1078 : Cond.methodLink RX11 247 yX11_outcomes ∈ lw_tbl := tk_7 (j := 130) rfl
set_option maxRecDepth 20000 in
theorem tw_1079 : Cond.code yX11_winsOf cX11_winsOf 4 (some .int) ∈ lw_tbl := tk_8 (j := 33) rfl
set_option maxRecDepth 20000 in
theorem tw_1080 : Cond.selects RX11 yX11_winsOf yX11_winsOf ∈ lw_tbl := ts_7 (q := (yX11_winsOf, 40)) (List.mem_of_getElem? (i := 1) rfl)
set_option maxRecDepth 20000 in
theorem tw_1081 : Cond.instanceMethod yX11_winsOf ∈ lw_tbl := tk_8 (j := 32) rfl
set_option maxRecDepth 20000 in
theorem tw_1082 : Cond.methodLink RX11 342 yX11_winsOf ∈ lw_tbl := tk_8 (j := 30) rfl
set_option maxRecDepth 20000 in
theorem tw_1083 : Cond.selects RX11 yX11_wins yX11_wins ∈ lw_tbl := tk_8 (j := 28) rfl
set_option maxRecDepth 20000 in
theorem tw_1084 : Cond.instanceMethod yX11_wins ∈ lw_tbl := tk_8 (j := 27) rfl
set_option maxRecDepth 20000 in
theorem tw_1085 : Cond.methodLink RL 96 yX11_wins ∈ lw_tbl := tk_8 (j := 26) rfl
set_option maxRecDepth 20000 in
theorem tw_1086 : Cond.code yX10_worst cX10_worst 1 (some .int) ∈ lw_tbl := tk_4 (j := 231) rfl
set_option maxRecDepth 20000 in
theorem tw_1087 : Cond.instanceMethod yX8_pay ∈ lw_tbl := tk_4 (j := 237) rfl
set_option maxRecDepth 20000 in
theorem tw_1088 : Cond.methodLink RX8 78 yX8_pay ∈ lw_tbl := tk_4 (j := 236) rfl
set_option maxRecDepth 20000 in
theorem tw_1089 : Cond.code yX8_leastPaid cX8_leastPaid 3 (some .int) ∈ lw_tbl := tk_4 (j := 235) rfl
set_option maxRecDepth 20000 in
theorem tw_1090 : Cond.selects RX8 yX8_leastPaid yX8_leastPaid ∈ lw_tbl := tk_4 (j := 234) rfl
set_option maxRecDepth 20000 in
theorem tw_1091 : Cond.instanceMethod yX8_leastPaid ∈ lw_tbl := tk_4 (j := 233) rfl
set_option maxRecDepth 20000 in
theorem tw_1092 : Cond.methodLink RX10 209 yX8_leastPaid ∈ lw_tbl := tk_4 (j := 232) rfl
set_option maxRecDepth 20000 in
theorem tw_1093 : Cond.methodLink RX10 212 yX8_pay ∈ lw_tbl := tk_5 (j := 0) rfl
set_option maxRecDepth 20000 in
theorem tw_1094 : Cond.code yX8_pay cX8_pay 4 (some .int) ∈ lw_tbl := tk_4 (j := 239) rfl
set_option maxRecDepth 20000 in
theorem tw_1095 : Cond.selects RX8 yX8_pay yX8_pay ∈ lw_tbl := tk_4 (j := 238) rfl
set_option maxRecDepth 20000 in
theorem tw_1096 : Cond.selects RX10 yX10_worst yX10_worst ∈ lw_tbl := tk_4 (j := 230) rfl
set_option maxRecDepth 20000 in
theorem tw_1097 : Cond.instanceMethod yX10_worst ∈ lw_tbl := tk_4 (j := 229) rfl
set_option maxRecDepth 20000 in
theorem tw_1098 : Cond.methodLink RL 97 yX10_worst ∈ lw_tbl := tk_4 (j := 228) rfl
set_option maxRecDepth 20000 in
theorem tw_1099 : Cond.code yX11_worst cX11_worst 1 (some .int) ∈ lw_tbl := tk_8 (j := 37) rfl
set_option maxRecDepth 20000 in
theorem tw_1100 : Cond.code yX11_paid cX11_paid 4 (some .int) ∈ lw_tbl := tk_8 (j := 45) rfl
set_option maxRecDepth 20000 in
theorem tw_1101 : Cond.selects RX11 yX11_paid yX11_paid ∈ lw_tbl := ts_7 (q := (yX11_paid, 40)) (List.mem_of_getElem? (i := 3) rfl)
set_option maxRecDepth 20000 in
theorem tw_1102 : Cond.instanceMethod yX11_paid ∈ lw_tbl := tk_8 (j := 44) rfl
set_option maxRecDepth 20000 in
theorem tw_1103 : Cond.methodLink RX11 339 yX11_paid ∈ lw_tbl := tk_8 (j := 42) rfl
set_option maxRecDepth 20000 in
theorem tw_1104 : Cond.code yX11_worstHidden cX11_worstHidden 3 (some .int) ∈ lw_tbl := tk_8 (j := 41) rfl
set_option maxRecDepth 20000 in
theorem tw_1105 : Cond.selects RX11 yX11_worstHidden yX11_worstHidden ∈ lw_tbl := ts_7 (q := (yX11_worstHidden, 40)) (List.mem_of_getElem? (i := 2) rfl)
set_option maxRecDepth 20000 in
theorem tw_1106 : Cond.instanceMethod yX11_worstHidden ∈ lw_tbl := tk_8 (j := 40) rfl
set_option maxRecDepth 20000 in
theorem tw_1107 : Cond.methodLink RX11 345 yX11_worstHidden ∈ lw_tbl := tk_8 (j := 38) rfl
set_option maxRecDepth 20000 in
theorem tw_1108 : Cond.selects RX11 yX11_worst yX11_worst ∈ lw_tbl := tk_8 (j := 36) rfl
set_option maxRecDepth 20000 in
theorem tw_1109 : Cond.instanceMethod yX11_worst ∈ lw_tbl := tk_8 (j := 35) rfl
set_option maxRecDepth 20000 in
theorem tw_1110 : Cond.methodLink RL 100 yX11_worst ∈ lw_tbl := tk_8 (j := 34) rfl
set_option maxRecDepth 20000 in
theorem tw_1111 : Cond.code yX10_worstAt cX10_worstAt 1 (some .int) ∈ lw_tbl := tk_5 (j := 4) rfl
set_option maxRecDepth 20000 in
theorem tw_1112 : Cond.selects RX10 yX10_worstAt yX10_worstAt ∈ lw_tbl := tk_5 (j := 3) rfl
set_option maxRecDepth 20000 in
theorem tw_1113 : Cond.instanceMethod yX10_worstAt ∈ lw_tbl := tk_5 (j := 2) rfl
set_option maxRecDepth 20000 in
theorem tw_1114 : Cond.methodLink RL 101 yX10_worstAt ∈ lw_tbl := tk_5 (j := 1) rfl
set_option maxRecDepth 20000 in
theorem tw_1115 : Cond.code yX11_worstAt cX11_worstAt 1 (some .int) ∈ lw_tbl := tk_8 (j := 49) rfl
set_option maxRecDepth 20000 in
theorem tw_1116 : Cond.selects RX11 yX11_worstAt yX11_worstAt ∈ lw_tbl := tk_8 (j := 48) rfl
set_option maxRecDepth 20000 in
theorem tw_1117 : Cond.instanceMethod yX11_worstAt ∈ lw_tbl := tk_8 (j := 47) rfl
set_option maxRecDepth 20000 in
theorem tw_1118 : Cond.methodLink RL 104 yX11_worstAt ∈ lw_tbl := tk_8 (j := 46) rfl
set_option maxRecDepth 20000 in
theorem tw_1119 : Cond.code yX10_bars cX10_bars 1 (some .int) ∈ lw_tbl := tk_5 (j := 8) rfl
set_option maxRecDepth 20000 in
theorem tw_1120 : Cond.code yX8_winnings cX8_winnings 3 (some .int) ∈ lw_tbl := tk_4 (j := 227) rfl
set_option maxRecDepth 20000 in
theorem tw_1121 : Cond.selects RX8 yX8_winnings yX8_winnings ∈ lw_tbl := tk_4 (j := 226) rfl
set_option maxRecDepth 20000 in
theorem tw_1122 : Cond.instanceMethod yX8_winnings ∈ lw_tbl := tk_4 (j := 225) rfl
set_option maxRecDepth 20000 in
theorem tw_1123 : Cond.methodLink RX10 206 yX8_winnings ∈ lw_tbl := tk_4 (j := 224) rfl
set_option maxRecDepth 20000 in
theorem tw_1124 : Cond.selects RX10 yX10_bars yX10_bars ∈ lw_tbl := tk_5 (j := 7) rfl
set_option maxRecDepth 20000 in
theorem tw_1125 : Cond.instanceMethod yX10_bars ∈ lw_tbl := tk_5 (j := 6) rfl
set_option maxRecDepth 20000 in
theorem tw_1126 : Cond.methodLink RL 105 yX10_bars ∈ lw_tbl := tk_5 (j := 5) rfl
set_option maxRecDepth 20000 in
theorem tw_1127 : Cond.code yX11_bars cX11_bars 1 (some .int) ∈ lw_tbl := tk_8 (j := 53) rfl
set_option maxRecDepth 20000 in
theorem tw_1128 : Cond.code yX11_winsOf cX11_winsOf 4 (some .int) ∈ lw_tbl := tk_8 (j := 33) rfl
set_option maxRecDepth 20000 in
theorem tw_1129 : Cond.selects RX11 yX11_winsOf yX11_winsOf ∈ lw_tbl := ts_7 (q := (yX11_winsOf, 40)) (List.mem_of_getElem? (i := 1) rfl)
set_option maxRecDepth 20000 in
theorem tw_1130 : Cond.instanceMethod yX11_winsOf ∈ lw_tbl := tk_8 (j := 32) rfl
set_option maxRecDepth 20000 in
theorem tw_1131 : Cond.methodLink RX11 342 yX11_winsOf ∈ lw_tbl := tk_8 (j := 30) rfl
set_option maxRecDepth 20000 in
theorem tw_1132 : Cond.selects RX11 yX11_bars yX11_bars ∈ lw_tbl := tk_8 (j := 52) rfl
set_option maxRecDepth 20000 in
theorem tw_1133 : Cond.instanceMethod yX11_bars ∈ lw_tbl := tk_8 (j := 51) rfl
set_option maxRecDepth 20000 in
theorem tw_1134 : Cond.methodLink RL 108 yX11_bars ∈ lw_tbl := tk_8 (j := 50) rfl
set_option maxRecDepth 20000 in
theorem tw_1135 : Cond.code yX10_fair cX10_fair 4 (some .int) ∈ lw_tbl := tk_5 (j := 12) rfl
set_option maxRecDepth 20000 in
theorem tw_1136 : Cond.methodLink RX10 218 yX2_set ∈ lw_tbl := tk_5 (j := 13) rfl
set_option maxRecDepth 20000 in
theorem tw_1137 : Cond.selects RX10 yX10_fair yX10_fair ∈ lw_tbl := tk_5 (j := 11) rfl
set_option maxRecDepth 20000 in
theorem tw_1138 : Cond.instanceMethod yX10_fair ∈ lw_tbl := tk_5 (j := 10) rfl
set_option maxRecDepth 20000 in
theorem tw_1139 : Cond.methodLink RL 109 yX10_fair ∈ lw_tbl := tk_5 (j := 9) rfl
set_option maxRecDepth 20000 in
theorem tw_1140 : Cond.code yX11_fair cX11_fair 3 (some .int) ∈ lw_tbl := tk_8 (j := 57) rfl
set_option maxRecDepth 20000 in
theorem tw_1141 : Cond.selects RX11 yX11_fair yX11_fair ∈ lw_tbl := tk_8 (j := 56) rfl
set_option maxRecDepth 20000 in
theorem tw_1142 : Cond.instanceMethod yX11_fair ∈ lw_tbl := tk_8 (j := 55) rfl
set_option maxRecDepth 20000 in
theorem tw_1143 : Cond.methodLink RL 112 yX11_fair ∈ lw_tbl := tk_8 (j := 54) rfl
set_option maxRecDepth 20000 in
theorem tw_1144 : Cond.code yX10_ways cX10_ways 1 (some .int) ∈ lw_tbl := tk_5 (j := 17) rfl
set_option maxRecDepth 20000 in
theorem tw_1145 : Cond.fieldLink RX10 222 "NotAtOnce$Parities" "ways" "I" ∈ lw_tbl := tk_2 (j := 43) rfl
set_option maxRecDepth 20000 in
theorem tw_1146 : Cond.fieldLink RX10 57 "NotAtOnce" "parities" "LNotAtOnce$Parities;" ∈ lw_tbl := tk_2 (j := 189) rfl
set_option maxRecDepth 20000 in
theorem tw_1147 : Cond.selects RX10 yX10_ways yX10_ways ∈ lw_tbl := tk_5 (j := 16) rfl
set_option maxRecDepth 20000 in
theorem tw_1148 : Cond.instanceMethod yX10_ways ∈ lw_tbl := tk_5 (j := 15) rfl
set_option maxRecDepth 20000 in
theorem tw_1149 : Cond.methodLink RL 113 yX10_ways ∈ lw_tbl := tk_5 (j := 14) rfl
set_option maxRecDepth 20000 in
theorem tw_1150 : Cond.code yX11_ways cX11_ways 3 (some .int) ∈ lw_tbl := tk_8 (j := 61) rfl
set_option maxRecDepth 20000 in
theorem tw_1151 : Cond.code yX11_allLines cX11_allLines 1 (some .int) ∈ lw_tbl := tk_8 (j := 69) rfl
set_option maxRecDepth 20000 in
theorem tw_1152 : Cond.selects RX11 yX11_allLines yX11_allLines ∈ lw_tbl := ts_7 (q := (yX11_allLines, 40)) (List.mem_of_getElem? (i := 5) rfl)
set_option maxRecDepth 20000 in
theorem tw_1153 : Cond.instanceMethod yX11_allLines ∈ lw_tbl := tk_8 (j := 68) rfl
set_option maxRecDepth 20000 in
theorem tw_1154 : Cond.methodLink RX11 351 yX11_allLines ∈ lw_tbl := tk_8 (j := 66) rfl
set_option maxRecDepth 20000 in
theorem tw_1155 : Cond.code yX11_linesBy cX11_linesBy 6 (some .int) ∈ lw_tbl := tk_8 (j := 65) rfl
set_option maxRecDepth 20000 in
theorem tw_1156 : Cond.selects RX11 yX11_linesBy yX11_linesBy ∈ lw_tbl := ts_7 (q := (yX11_linesBy, 40)) (List.mem_of_getElem? (i := 4) rfl)
set_option maxRecDepth 20000 in
theorem tw_1157 : Cond.instanceMethod yX11_linesBy ∈ lw_tbl := tk_8 (j := 64) rfl
set_option maxRecDepth 20000 in
theorem tw_1158 : Cond.methodLink RX11 348 yX11_linesBy ∈ lw_tbl := tk_8 (j := 62) rfl
set_option maxRecDepth 20000 in
theorem tw_1159 : Cond.selects RX11 yX11_ways yX11_ways ∈ lw_tbl := tk_8 (j := 60) rfl
set_option maxRecDepth 20000 in
theorem tw_1160 : Cond.instanceMethod yX11_ways ∈ lw_tbl := tk_8 (j := 59) rfl
set_option maxRecDepth 20000 in
theorem tw_1161 : Cond.methodLink RL 116 yX11_ways ∈ lw_tbl := tk_8 (j := 58) rfl
set_option maxRecDepth 20000 in
theorem tw_1162 : Cond.code yX10_forced cX10_forced 2 (some .int) ∈ lw_tbl := tk_5 (j := 21) rfl
set_option maxRecDepth 20000 in
theorem tw_1163 : Cond.fieldLink RX5 32 "NotAtOnce$Parities" "everNone" "I" ∈ lw_tbl := tk_2 (j := 45) rfl
set_option maxRecDepth 20000 in
theorem tw_1164 : Cond.fieldLink RX5 29 "NotAtOnce$Parities" "everOne" "I" ∈ lw_tbl := tk_2 (j := 44) rfl
set_option maxRecDepth 20000 in
theorem tw_1165 : Cond.code yX5_valueOf cX5_valueOf 4 (some .int) ∈ lw_tbl := tk_5 (j := 25) rfl
set_option maxRecDepth 20000 in
theorem tw_1166 : Cond.initialized RX5 ∈ lw_tbl := tk_1 (j := 8) rfl
set_option maxRecDepth 20000 in
theorem tw_1167 : Cond.selects RX5 yX5_valueOf yX5_valueOf ∈ lw_tbl := tk_5 (j := 24) rfl
set_option maxRecDepth 20000 in
theorem tw_1168 : Cond.instanceMethod yX5_valueOf ∈ lw_tbl := tk_5 (j := 23) rfl
set_option maxRecDepth 20000 in
theorem tw_1169 : Cond.methodLink RX10 228 yX5_valueOf ∈ lw_tbl := tk_5 (j := 22) rfl
set_option maxRecDepth 20000 in
theorem tw_1170 : Cond.fieldLink RX10 225 "NotAtOnce$Parities" "points" "I" ∈ lw_tbl := tk_2 (j := 39) rfl
set_option maxRecDepth 20000 in
theorem tw_1171 : Cond.selects RX10 yX10_forced yX10_forced ∈ lw_tbl := tk_5 (j := 20) rfl
set_option maxRecDepth 20000 in
theorem tw_1172 : Cond.instanceMethod yX10_forced ∈ lw_tbl := tk_5 (j := 19) rfl
set_option maxRecDepth 20000 in
theorem tw_1173 : Cond.methodLink RL 117 yX10_forced ∈ lw_tbl := tk_5 (j := 18) rfl
set_option maxRecDepth 20000 in
theorem tw_1174 : Cond.code yX11_forced cX11_forced 5 (some .int) ∈ lw_tbl := tk_8 (j := 73) rfl
set_option maxRecDepth 20000 in
theorem tw_1175 : Cond.code yX11_allLines cX11_allLines 1 (some .int) ∈ lw_tbl := tk_8 (j := 69) rfl
set_option maxRecDepth 20000 in
theorem tw_1176 : Cond.selects RX11 yX11_allLines yX11_allLines ∈ lw_tbl := ts_7 (q := (yX11_allLines, 40)) (List.mem_of_getElem? (i := 5) rfl)
set_option maxRecDepth 20000 in
theorem tw_1177 : Cond.instanceMethod yX11_allLines ∈ lw_tbl := tk_8 (j := 68) rfl
set_option maxRecDepth 20000 in
theorem tw_1178 : Cond.methodLink RX11 351 yX11_allLines ∈ lw_tbl := tk_8 (j := 66) rfl
set_option maxRecDepth 20000 in
theorem tw_1179 : Cond.code yX11_linesBy cX11_linesBy 6 (some .int) ∈ lw_tbl := tk_8 (j := 65) rfl
set_option maxRecDepth 20000 in
theorem tw_1180 : Cond.selects RX11 yX11_linesBy yX11_linesBy ∈ lw_tbl := ts_7 (q := (yX11_linesBy, 40)) (List.mem_of_getElem? (i := 4) rfl)
set_option maxRecDepth 20000 in
theorem tw_1181 : Cond.instanceMethod yX11_linesBy ∈ lw_tbl := tk_8 (j := 64) rfl
set_option maxRecDepth 20000 in
theorem tw_1182 : Cond.methodLink RX11 348 yX11_linesBy ∈ lw_tbl := tk_8 (j := 62) rfl
set_option maxRecDepth 20000 in
theorem tw_1183 : Cond.selects RX11 yX11_forced yX11_forced ∈ lw_tbl := tk_8 (j := 72) rfl
set_option maxRecDepth 20000 in
theorem tw_1184 : Cond.instanceMethod yX11_forced ∈ lw_tbl := tk_8 (j := 71) rfl
set_option maxRecDepth 20000 in
theorem tw_1185 : Cond.methodLink RL 120 yX11_forced ∈ lw_tbl := tk_8 (j := 70) rfl
set_option maxRecDepth 20000 in
theorem tw_1186 : Cond.code yX10_core cX10_core 1 (some .int) ∈ lw_tbl := tk_5 (j := 29) rfl
set_option maxRecDepth 20000 in
theorem tw_1187 : Cond.code yX5_leastBroken cX5_leastBroken 3 (some .int) ∈ lw_tbl := tk_5 (j := 33) rfl
set_option maxRecDepth 20000 in
theorem tw_1188 : Cond.selects RX5 yX5_leastBroken yX5_leastBroken ∈ lw_tbl := tk_5 (j := 32) rfl
set_option maxRecDepth 20000 in
theorem tw_1189 : Cond.instanceMethod yX5_leastBroken ∈ lw_tbl := tk_5 (j := 31) rfl
set_option maxRecDepth 20000 in
theorem tw_1190 : Cond.methodLink RX10 231 yX5_leastBroken ∈ lw_tbl := tk_5 (j := 30) rfl
set_option maxRecDepth 20000 in
theorem tw_1191 : Cond.selects RX10 yX10_core yX10_core ∈ lw_tbl := tk_5 (j := 28) rfl
set_option maxRecDepth 20000 in
theorem tw_1192 : Cond.instanceMethod yX10_core ∈ lw_tbl := tk_5 (j := 27) rfl
set_option maxRecDepth 20000 in
theorem tw_1193 : Cond.methodLink RL 121 yX10_core ∈ lw_tbl := tk_5 (j := 26) rfl
set_option maxRecDepth 20000 in
theorem tw_1194 : Cond.code yX11_core cX11_core 3 (some .int) ∈ lw_tbl := tk_8 (j := 77) rfl
set_option maxRecDepth 20000 in
theorem tw_1195 : Cond.code yX11_canLines cX11_canLines 4 (some .boolean) ∈ lw_tbl := tk_8 (j := 81) rfl
set_option maxRecDepth 20000 in
theorem tw_1196 : Cond.selects RX11 yX11_canLines yX11_canLines ∈ lw_tbl := ts_7 (q := (yX11_canLines, 40)) (List.mem_of_getElem? (i := 6) rfl)
set_option maxRecDepth 20000 in
theorem tw_1197 : Cond.instanceMethod yX11_canLines ∈ lw_tbl := tk_8 (j := 80) rfl
set_option maxRecDepth 20000 in
theorem tw_1198 : Cond.methodLink RX11 354 yX11_canLines ∈ lw_tbl := tk_8 (j := 78) rfl
set_option maxRecDepth 20000 in
theorem tw_1199 : Cond.selects RX11 yX11_core yX11_core ∈ lw_tbl := tk_8 (j := 76) rfl
set_option maxRecDepth 20000 in
theorem tw_1200 : Cond.instanceMethod yX11_core ∈ lw_tbl := tk_8 (j := 75) rfl
set_option maxRecDepth 20000 in
theorem tw_1201 : Cond.methodLink RL 124 yX11_core ∈ lw_tbl := tk_8 (j := 74) rfl
set_option maxRecDepth 20000 in
theorem tw_1202 : Cond.code yX10_can cX10_can 2 (some .int) ∈ lw_tbl := tk_5 (j := 37) rfl
set_option maxRecDepth 20000 in
theorem tw_1203 : Cond.code yX5_holds cX5_holds 2 (some .boolean) ∈ lw_tbl := tk_5 (j := 41) rfl
set_option maxRecDepth 20000 in
theorem tw_1204 : Cond.selects RX5 yX5_holds yX5_holds ∈ lw_tbl := tk_5 (j := 40) rfl
set_option maxRecDepth 20000 in
theorem tw_1205 : Cond.instanceMethod yX5_holds ∈ lw_tbl := tk_5 (j := 39) rfl
set_option maxRecDepth 20000 in
theorem tw_1206 : Cond.methodLink RX10 237 yX5_holds ∈ lw_tbl := tk_5 (j := 38) rfl
set_option maxRecDepth 20000 in
theorem tw_1207 : Cond.fieldLink RX10 234 "NotAtOnce$Parities" "lines" "I" ∈ lw_tbl := tk_2 (j := 41) rfl
set_option maxRecDepth 20000 in
theorem tw_1208 : Cond.selects RX10 yX10_can yX10_can ∈ lw_tbl := tk_5 (j := 36) rfl
set_option maxRecDepth 20000 in
theorem tw_1209 : Cond.instanceMethod yX10_can ∈ lw_tbl := tk_5 (j := 35) rfl
set_option maxRecDepth 20000 in
theorem tw_1210 : Cond.methodLink RL 125 yX10_can ∈ lw_tbl := tk_5 (j := 34) rfl
set_option maxRecDepth 20000 in
theorem tw_1211 : Cond.code yX11_can cX11_can 2 (some .int) ∈ lw_tbl := tk_8 (j := 85) rfl
set_option maxRecDepth 20000 in
theorem tw_1212 : Cond.selects RX11 yX11_can yX11_can ∈ lw_tbl := tk_8 (j := 84) rfl
set_option maxRecDepth 20000 in
theorem tw_1213 : Cond.instanceMethod yX11_can ∈ lw_tbl := tk_8 (j := 83) rfl
set_option maxRecDepth 20000 in
theorem tw_1214 : Cond.methodLink RL 128 yX11_can ∈ lw_tbl := tk_8 (j := 82) rfl
set_option maxRecDepth 20000 in
theorem tw_1215 : Cond.code yX10_game cX10_game 1 (some .int) ∈ lw_tbl := tk_5 (j := 45) rfl
set_option maxRecDepth 20000 in
theorem tw_1216 : Cond.code Lib.Math.max.name Lib.Math.max.code 2 (some .int) ∈ lw_tbl := by decide +kernel
set_option maxRecDepth 20000 in
theorem tw_1217 : Cond.static Lib.Math.max.name ∈ lw_tbl := by decide +kernel
set_option maxRecDepth 20000 in
theorem tw_1218 : Cond.methodLink RX5 55 Lib.Math.max.name ∈ lw_tbl := by decide +kernel
set_option maxRecDepth 20000 in
theorem tw_1219 : Cond.code yX5_mostHeld cX5_mostHeld 3 (some .int) ∈ lw_tbl := tk_5 (j := 49) rfl
set_option maxRecDepth 20000 in
theorem tw_1220 : Cond.selects RX5 yX5_mostHeld yX5_mostHeld ∈ lw_tbl := tk_5 (j := 48) rfl
set_option maxRecDepth 20000 in
theorem tw_1221 : Cond.instanceMethod yX5_mostHeld ∈ lw_tbl := tk_5 (j := 47) rfl
set_option maxRecDepth 20000 in
theorem tw_1222 : Cond.methodLink RX10 240 yX5_mostHeld ∈ lw_tbl := tk_5 (j := 46) rfl
set_option maxRecDepth 20000 in
theorem tw_1223 : Cond.selects RX10 yX10_game yX10_game ∈ lw_tbl := tk_5 (j := 44) rfl
set_option maxRecDepth 20000 in
theorem tw_1224 : Cond.instanceMethod yX10_game ∈ lw_tbl := tk_5 (j := 43) rfl
set_option maxRecDepth 20000 in
theorem tw_1225 : Cond.methodLink RL 129 yX10_game ∈ lw_tbl := tk_5 (j := 42) rfl
set_option maxRecDepth 20000 in
theorem tw_1226 : Cond.code yX11_game cX11_game 3 (some .int) ∈ lw_tbl := tk_8 (j := 89) rfl
set_option maxRecDepth 20000 in
theorem tw_1227 : Cond.code yX11_bits cX11_bits 3 (some .int) ∈ lw_tbl := tk_8 (j := 0) rfl
set_option maxRecDepth 20000 in
theorem tw_1228 : Cond.static yX11_bits ∈ lw_tbl := tk_7 (j := 239) rfl
set_option maxRecDepth 20000 in
theorem tw_1229 : Cond.methodLink RX11 323 yX11_bits ∈ lw_tbl := tk_7 (j := 238) rfl
set_option maxRecDepth 20000 in
theorem tw_1230 : Cond.selects RX11 yX11_game yX11_game ∈ lw_tbl := tk_8 (j := 88) rfl
set_option maxRecDepth 20000 in
theorem tw_1231 : Cond.instanceMethod yX11_game ∈ lw_tbl := tk_8 (j := 87) rfl
set_option maxRecDepth 20000 in
theorem tw_1232 : Cond.methodLink RL 132 yX11_game ∈ lw_tbl := tk_8 (j := 86) rfl
set_option maxRecDepth 20000 in
theorem tw_1233 : Cond.code yX10_square cX10_square 3 (some .int) ∈ lw_tbl := tk_5 (j := 56) rfl
set_option maxRecDepth 20000 in
theorem tw_1234 : Cond.fieldLink RX3 24 "NotAtOnce$Frames" "rays" "I" ∈ lw_tbl := tk_2 (j := 67) rfl
set_option maxRecDepth 20000 in
theorem tw_1235 : Cond.code yX3_hasRay cX3_hasRay 2 (some .boolean) ∈ lw_tbl := tk_5 (j := 60) rfl
set_option maxRecDepth 20000 in
theorem tw_1236 : Cond.initialized RX3 ∈ lw_tbl := tk_1 (j := 9) rfl
set_option maxRecDepth 20000 in
theorem tw_1237 : Cond.selects RX3 yX3_hasRay yX3_hasRay ∈ lw_tbl := tk_5 (j := 59) rfl
set_option maxRecDepth 20000 in
theorem tw_1238 : Cond.instanceMethod yX3_hasRay ∈ lw_tbl := tk_5 (j := 58) rfl
set_option maxRecDepth 20000 in
theorem tw_1239 : Cond.methodLink RX10 243 yX3_hasRay ∈ lw_tbl := tk_5 (j := 57) rfl
set_option maxRecDepth 20000 in
theorem tw_1240 : Cond.fieldLink RX10 246 "NotAtOnce$Frames" "meets" "[I" ∈ lw_tbl := tk_2 (j := 80) rfl
set_option maxRecDepth 20000 in
theorem tw_1241 : Cond.fieldLink RX10 64 "NotAtOnce" "frames" "LNotAtOnce$Frames;" ∈ lw_tbl := tk_2 (j := 190) rfl
set_option maxRecDepth 20000 in
theorem tw_1242 : Cond.selects RX10 yX10_square yX10_square ∈ lw_tbl := tk_5 (j := 55) rfl
set_option maxRecDepth 20000 in
theorem tw_1243 : Cond.instanceMethod yX10_square ∈ lw_tbl := tk_5 (j := 54) rfl
set_option maxRecDepth 20000 in
theorem tw_1244 : Cond.methodLink RL 133 yX10_square ∈ lw_tbl := tk_5 (j := 53) rfl
set_option maxRecDepth 20000 in
theorem tw_1245 : Cond.code yX11_square cX11_square 3 (some .int) ∈ lw_tbl := tk_8 (j := 93) rfl
set_option maxRecDepth 20000 in
theorem tw_1246 : Cond.code yX11_areSquare cX11_areSquare 5 (some .boolean) ∈ lw_tbl := tk_8 (j := 101) rfl
set_option maxRecDepth 20000 in
theorem tw_1247 : Cond.selects RX11 yX11_areSquare yX11_areSquare ∈ lw_tbl := ts_7 (q := (yX11_areSquare, 40)) (List.mem_of_getElem? (i := 8) rfl)
set_option maxRecDepth 20000 in
theorem tw_1248 : Cond.instanceMethod yX11_areSquare ∈ lw_tbl := tk_8 (j := 100) rfl
set_option maxRecDepth 20000 in
theorem tw_1249 : Cond.methodLink RX11 360 yX11_areSquare ∈ lw_tbl := tk_8 (j := 98) rfl
set_option maxRecDepth 20000 in
theorem tw_1250 : Cond.code yX11_isRay cX11_isRay 2 (some .boolean) ∈ lw_tbl := tk_8 (j := 97) rfl
set_option maxRecDepth 20000 in
theorem tw_1251 : Cond.selects RX11 yX11_isRay yX11_isRay ∈ lw_tbl := ts_7 (q := (yX11_isRay, 40)) (List.mem_of_getElem? (i := 7) rfl)
set_option maxRecDepth 20000 in
theorem tw_1252 : Cond.instanceMethod yX11_isRay ∈ lw_tbl := tk_8 (j := 96) rfl
set_option maxRecDepth 20000 in
theorem tw_1253 : Cond.methodLink RX11 357 yX11_isRay ∈ lw_tbl := tk_8 (j := 94) rfl
set_option maxRecDepth 20000 in
theorem tw_1254 : Cond.selects RX11 yX11_square yX11_square ∈ lw_tbl := tk_8 (j := 92) rfl
set_option maxRecDepth 20000 in
theorem tw_1255 : Cond.instanceMethod yX11_square ∈ lw_tbl := tk_8 (j := 91) rfl
set_option maxRecDepth 20000 in
theorem tw_1256 : Cond.methodLink RL 136 yX11_square ∈ lw_tbl := tk_8 (j := 90) rfl
set_option maxRecDepth 20000 in
theorem tw_1257 : Cond.code yX10_corners cX10_corners 1 (some .int) ∈ lw_tbl := tk_5 (j := 64) rfl
set_option maxRecDepth 20000 in
theorem tw_1258 : Cond.fieldLink RX10 249 "NotAtOnce$Frames" "corners" "I" ∈ lw_tbl := tk_2 (j := 70) rfl
set_option maxRecDepth 20000 in
theorem tw_1259 : Cond.selects RX10 yX10_corners yX10_corners ∈ lw_tbl := tk_5 (j := 63) rfl
set_option maxRecDepth 20000 in
theorem tw_1260 : Cond.instanceMethod yX10_corners ∈ lw_tbl := tk_5 (j := 62) rfl
set_option maxRecDepth 20000 in
theorem tw_1261 : Cond.methodLink RL 137 yX10_corners ∈ lw_tbl := tk_5 (j := 61) rfl
set_option maxRecDepth 20000 in
theorem tw_1262 : Cond.code yX11_corners cX11_corners 1 (some .int) ∈ lw_tbl := tk_8 (j := 105) rfl
set_option maxRecDepth 20000 in
theorem tw_1263 : Cond.code yX11_areSquare cX11_areSquare 5 (some .boolean) ∈ lw_tbl := tk_8 (j := 101) rfl
set_option maxRecDepth 20000 in
theorem tw_1264 : Cond.selects RX11 yX11_areSquare yX11_areSquare ∈ lw_tbl := ts_7 (q := (yX11_areSquare, 40)) (List.mem_of_getElem? (i := 8) rfl)
set_option maxRecDepth 20000 in
theorem tw_1265 : Cond.instanceMethod yX11_areSquare ∈ lw_tbl := tk_8 (j := 100) rfl
set_option maxRecDepth 20000 in
theorem tw_1266 : Cond.methodLink RX11 360 yX11_areSquare ∈ lw_tbl := tk_8 (j := 98) rfl
set_option maxRecDepth 20000 in
theorem tw_1267 : Cond.fieldLink RX11 54 "NotAtOnceModel" "corner" "[I" ∈ lw_tbl := tk_6 (j := 123) rfl
set_option maxRecDepth 20000 in
theorem tw_1268 : Cond.fieldLink RX11 57 "NotAtOnceModel" "squares" "[I" ∈ lw_tbl := tk_6 (j := 124) rfl
set_option maxRecDepth 20000 in
theorem tw_1269 : Cond.code yX11_layCorners cX11_layCorners 5 none ∈ lw_tbl := tk_8 (j := 109) rfl
set_option maxRecDepth 20000 in
theorem tw_1270 : Cond.selects RX11 yX11_layCorners yX11_layCorners ∈ lw_tbl := ts_7 (q := (yX11_layCorners, 40)) (List.mem_of_getElem? (i := 9) rfl)
set_option maxRecDepth 20000 in
theorem tw_1271 : Cond.instanceMethod yX11_layCorners ∈ lw_tbl := tk_8 (j := 108) rfl
set_option maxRecDepth 20000 in
theorem tw_1272 : Cond.methodLink RX11 366 yX11_layCorners ∈ lw_tbl := tk_8 (j := 106) rfl
set_option maxRecDepth 20000 in
theorem tw_1273 : Cond.fieldLink RX11 363 "NotAtOnceModel" "cornerMany" "I" ∈ lw_tbl := tk_6 (j := 125) rfl
set_option maxRecDepth 20000 in
theorem tw_1274 : Cond.selects RX11 yX11_corners yX11_corners ∈ lw_tbl := tk_8 (j := 104) rfl
set_option maxRecDepth 20000 in
theorem tw_1275 : Cond.instanceMethod yX11_corners ∈ lw_tbl := tk_8 (j := 103) rfl
set_option maxRecDepth 20000 in
theorem tw_1276 : Cond.methodLink RL 140 yX11_corners ∈ lw_tbl := tk_8 (j := 102) rfl
set_option maxRecDepth 20000 in
theorem tw_1277 : Cond.code yX10_colours cX10_colours 1 (some .int) ∈ lw_tbl := tk_5 (j := 68) rfl
set_option maxRecDepth 20000 in
theorem tw_1278 : Cond.fieldLink RX3 56 "NotAtOnce$Frames" "mostOnes" "I" ∈ lw_tbl := tk_2 (j := 73) rfl
set_option maxRecDepth 20000 in
theorem tw_1279 : Cond.fieldLink RX3 53 "NotAtOnce$Frames" "most" "I" ∈ lw_tbl := tk_2 (j := 85) rfl
set_option maxRecDepth 20000 in
theorem tw_1280 : Cond.fieldLink RX3 50 "NotAtOnce$Frames" "colourings" "I" ∈ lw_tbl := tk_2 (j := 71) rfl
set_option maxRecDepth 20000 in
theorem tw_1281 : Cond.code yX3_work cX3_work 3 none ∈ lw_tbl := tk_5 (j := 72) rfl
set_option maxRecDepth 20000 in
theorem tw_1282 : Cond.selects RX3 yX3_work yX3_work ∈ lw_tbl := tk_5 (j := 71) rfl
set_option maxRecDepth 20000 in
theorem tw_1283 : Cond.instanceMethod yX3_work ∈ lw_tbl := tk_5 (j := 70) rfl
set_option maxRecDepth 20000 in
theorem tw_1284 : Cond.methodLink RX10 252 yX3_work ∈ lw_tbl := tk_5 (j := 69) rfl
set_option maxRecDepth 20000 in
theorem tw_1285 : Cond.fieldLink RX10 255 "NotAtOnce$Frames" "colourings" "I" ∈ lw_tbl := tk_2 (j := 72) rfl
set_option maxRecDepth 20000 in
theorem tw_1286 : Cond.methodLink RX3 78 yJ6_bitCount_0f7a4 ∈ lw_tbl := tk_5 (j := 85) rfl
set_option maxRecDepth 20000 in
theorem tw_1287 : Cond.code yX3_mostMet cX3_mostMet 5 (some .int) ∈ lw_tbl := tk_5 (j := 84) rfl
set_option maxRecDepth 20000 in
theorem tw_1288 : Cond.selects RX3 yX3_mostMet yX3_mostMet ∈ lw_tbl := ts_3 (q := (yX3_mostMet, 12)) (List.mem_of_getElem? (i := 14) rfl)
set_option maxRecDepth 20000 in
theorem tw_1289 : Cond.instanceMethod yX3_mostMet ∈ lw_tbl := tk_5 (j := 83) rfl
set_option maxRecDepth 20000 in
theorem tw_1290 : Cond.methodLink RX3 75 yX3_mostMet ∈ lw_tbl := tk_5 (j := 81) rfl
set_option maxRecDepth 20000 in
theorem tw_1291 : Cond.methodLink RX3 87 Lib.Math.max.name ∈ lw_tbl := by decide +kernel
set_option maxRecDepth 20000 in
theorem tw_1292 : Cond.code yX3_colour cX3_colour 9 none ∈ lw_tbl := tk_5 (j := 80) rfl
set_option maxRecDepth 20000 in
theorem tw_1293 : Cond.selects RX3 yX3_colour yX3_colour ∈ lw_tbl := ts_3 (q := (yX3_colour, 12)) (List.mem_of_getElem? (i := 13) rfl)
set_option maxRecDepth 20000 in
theorem tw_1294 : Cond.instanceMethod yX3_colour ∈ lw_tbl := tk_5 (j := 79) rfl
set_option maxRecDepth 20000 in
theorem tw_1295 : Cond.methodLink RX3 71 yX3_colour ∈ lw_tbl := tk_5 (j := 77) rfl
set_option maxRecDepth 20000 in
theorem tw_1296 : Cond.fieldLink RX3 68 "NotAtOnce$Frames" "found" "I" ∈ lw_tbl := tk_2 (j := 84) rfl
set_option maxRecDepth 20000 in
theorem tw_1297 : Cond.fieldLink RX3 65 "NotAtOnce$Frames" "present" "I" ∈ lw_tbl := tk_2 (j := 83) rfl
set_option maxRecDepth 20000 in
theorem tw_1298 : Cond.code yX3_countColours cX3_countColours 2 (some .int) ∈ lw_tbl := tk_5 (j := 76) rfl
set_option maxRecDepth 20000 in
theorem tw_1299 : Cond.selects RX3 yX3_countColours yX3_countColours ∈ lw_tbl := ts_3 (q := (yX3_countColours, 12)) (List.mem_of_getElem? (i := 12) rfl)
set_option maxRecDepth 20000 in
theorem tw_1300 : Cond.instanceMethod yX3_countColours ∈ lw_tbl := tk_5 (j := 75) rfl
set_option maxRecDepth 20000 in
theorem tw_1301 : Cond.methodLink RX3 46 yX3_countColours ∈ lw_tbl := tk_5 (j := 73) rfl
set_option maxRecDepth 20000 in
theorem tw_1302 : Cond.fieldLink RX3 62 "NotAtOnce$Frames" "staying" "I" ∈ lw_tbl := tk_2 (j := 77) rfl
set_option maxRecDepth 20000 in
theorem tw_1303 : Cond.fieldLink RX3 59 "NotAtOnce$Frames" "spares" "I" ∈ lw_tbl := tk_2 (j := 75) rfl
set_option maxRecDepth 20000 in
theorem tw_1304 : Cond.code yX10_bitAt cX10_bitAt 4 (some .int) ∈ lw_tbl := tk_5 (j := 88) rfl
set_option maxRecDepth 20000 in
theorem tw_1305 : Cond.static yX10_bitAt ∈ lw_tbl := tk_5 (j := 87) rfl
set_option maxRecDepth 20000 in
theorem tw_1306 : Cond.selects RX10 yX10_colours yX10_colours ∈ lw_tbl := tk_5 (j := 67) rfl
set_option maxRecDepth 20000 in
theorem tw_1307 : Cond.instanceMethod yX10_colours ∈ lw_tbl := tk_5 (j := 66) rfl
set_option maxRecDepth 20000 in
theorem tw_1308 : Cond.methodLink RL 141 yX10_colours ∈ lw_tbl := tk_5 (j := 65) rfl
set_option maxRecDepth 20000 in
theorem tw_1309 : Cond.code yX11_colours cX11_colours 1 (some .int) ∈ lw_tbl := tk_8 (j := 113) rfl
set_option maxRecDepth 20000 in
theorem tw_1310 : Cond.fieldLink RX11 369 "NotAtOnceModel" "colourMany" "I" ∈ lw_tbl := tk_6 (j := 127) rfl
set_option maxRecDepth 20000 in
theorem tw_1311 : Cond.constant RX11 384 (1048576) ∈ lw_tbl := tk_8 (j := 118) rfl
set_option maxRecDepth 20000 in
theorem tw_1312 : Cond.code yX11_isSoFar cX11_isSoFar 8 (some .boolean) ∈ lw_tbl := tk_8 (j := 126) rfl
set_option maxRecDepth 20000 in
theorem tw_1313 : Cond.selects RX11 yX11_isSoFar yX11_isSoFar ∈ lw_tbl := ts_7 (q := (yX11_isSoFar, 40)) (List.mem_of_getElem? (i := 12) rfl)
set_option maxRecDepth 20000 in
theorem tw_1314 : Cond.instanceMethod yX11_isSoFar ∈ lw_tbl := tk_8 (j := 125) rfl
set_option maxRecDepth 20000 in
theorem tw_1315 : Cond.methodLink RX11 375 yX11_isSoFar ∈ lw_tbl := tk_8 (j := 123) rfl
set_option maxRecDepth 20000 in
theorem tw_1316 : Cond.fieldLink RX11 60 "NotAtOnceModel" "chosen" "[I" ∈ lw_tbl := tk_6 (j := 126) rfl
set_option maxRecDepth 20000 in
theorem tw_1317 : Cond.fieldLink RX11 372 "NotAtOnceModel" "mostOnes" "I" ∈ lw_tbl := tk_6 (j := 128) rfl
set_option maxRecDepth 20000 in
theorem tw_1318 : Cond.code yX11_colour cX11_colour 9 none ∈ lw_tbl := tk_8 (j := 122) rfl
set_option maxRecDepth 20000 in
theorem tw_1319 : Cond.selects RX11 yX11_colour yX11_colour ∈ lw_tbl := ts_7 (q := (yX11_colour, 40)) (List.mem_of_getElem? (i := 11) rfl)
set_option maxRecDepth 20000 in
theorem tw_1320 : Cond.instanceMethod yX11_colour ∈ lw_tbl := tk_8 (j := 121) rfl
set_option maxRecDepth 20000 in
theorem tw_1321 : Cond.methodLink RX11 378 yX11_colour ∈ lw_tbl := tk_8 (j := 119) rfl
set_option maxRecDepth 20000 in
theorem tw_1322 : Cond.code yX11_allRays cX11_allRays 1 (some .int) ∈ lw_tbl := tk_8 (j := 117) rfl
set_option maxRecDepth 20000 in
theorem tw_1323 : Cond.selects RX11 yX11_allRays yX11_allRays ∈ lw_tbl := ts_7 (q := (yX11_allRays, 40)) (List.mem_of_getElem? (i := 10) rfl)
set_option maxRecDepth 20000 in
theorem tw_1324 : Cond.instanceMethod yX11_allRays ∈ lw_tbl := tk_8 (j := 116) rfl
set_option maxRecDepth 20000 in
theorem tw_1325 : Cond.methodLink RX11 381 yX11_allRays ∈ lw_tbl := tk_8 (j := 114) rfl
set_option maxRecDepth 20000 in
theorem tw_1326 : Cond.selects RX11 yX11_colours yX11_colours ∈ lw_tbl := tk_8 (j := 112) rfl
set_option maxRecDepth 20000 in
theorem tw_1327 : Cond.instanceMethod yX11_colours ∈ lw_tbl := tk_8 (j := 111) rfl
set_option maxRecDepth 20000 in
theorem tw_1328 : Cond.methodLink RL 144 yX11_colours ∈ lw_tbl := tk_8 (j := 110) rfl
set_option maxRecDepth 20000 in
theorem tw_1329 : Cond.code yX10_ones cX10_ones 1 (some .int) ∈ lw_tbl := tk_5 (j := 93) rfl
set_option maxRecDepth 20000 in
theorem tw_1330 : Cond.fieldLink RX10 258 "NotAtOnce$Frames" "mostOnes" "I" ∈ lw_tbl := tk_2 (j := 74) rfl
set_option maxRecDepth 20000 in
theorem tw_1331 : Cond.selects RX10 yX10_ones yX10_ones ∈ lw_tbl := tk_5 (j := 92) rfl
set_option maxRecDepth 20000 in
theorem tw_1332 : Cond.instanceMethod yX10_ones ∈ lw_tbl := tk_5 (j := 91) rfl
set_option maxRecDepth 20000 in
theorem tw_1333 : Cond.methodLink RL 145 yX10_ones ∈ lw_tbl := tk_5 (j := 90) rfl
set_option maxRecDepth 20000 in
theorem tw_1334 : Cond.code yX11_ones cX11_ones 1 (some .int) ∈ lw_tbl := tk_8 (j := 130) rfl
set_option maxRecDepth 20000 in
theorem tw_1335 : Cond.selects RX11 yX11_ones yX11_ones ∈ lw_tbl := tk_8 (j := 129) rfl
set_option maxRecDepth 20000 in
theorem tw_1336 : Cond.instanceMethod yX11_ones ∈ lw_tbl := tk_8 (j := 128) rfl
set_option maxRecDepth 20000 in
theorem tw_1337 : Cond.methodLink RL 148 yX11_ones ∈ lw_tbl := tk_8 (j := 127) rfl
set_option maxRecDepth 20000 in
theorem tw_1338 : Cond.code yX10_spare cX10_spare 1 (some .int) ∈ lw_tbl := tk_5 (j := 97) rfl
set_option maxRecDepth 20000 in
theorem tw_1339 : Cond.fieldLink RX10 261 "NotAtOnce$Frames" "spares" "I" ∈ lw_tbl := tk_2 (j := 76) rfl
set_option maxRecDepth 20000 in
theorem tw_1340 : Cond.selects RX10 yX10_spare yX10_spare ∈ lw_tbl := tk_5 (j := 96) rfl
set_option maxRecDepth 20000 in
theorem tw_1341 : Cond.instanceMethod yX10_spare ∈ lw_tbl := tk_5 (j := 95) rfl
set_option maxRecDepth 20000 in
theorem tw_1342 : Cond.methodLink RL 149 yX10_spare ∈ lw_tbl := tk_5 (j := 94) rfl
set_option maxRecDepth 20000 in
theorem tw_1343 : Cond.code yX11_spare cX11_spare 3 (some .int) ∈ lw_tbl := tk_8 (j := 134) rfl
set_option maxRecDepth 20000 in
theorem tw_1344 : Cond.code yX11_hasColour cX11_hasColour 2 (some .boolean) ∈ lw_tbl := tk_8 (j := 138) rfl
set_option maxRecDepth 20000 in
theorem tw_1345 : Cond.selects RX11 yX11_hasColour yX11_hasColour ∈ lw_tbl := ts_7 (q := (yX11_hasColour, 40)) (List.mem_of_getElem? (i := 13) rfl)
set_option maxRecDepth 20000 in
theorem tw_1346 : Cond.instanceMethod yX11_hasColour ∈ lw_tbl := tk_8 (j := 137) rfl
set_option maxRecDepth 20000 in
theorem tw_1347 : Cond.methodLink RX11 385 yX11_hasColour ∈ lw_tbl := tk_8 (j := 135) rfl
set_option maxRecDepth 20000 in
theorem tw_1348 : Cond.selects RX11 yX11_spare yX11_spare ∈ lw_tbl := tk_8 (j := 133) rfl
set_option maxRecDepth 20000 in
theorem tw_1349 : Cond.instanceMethod yX11_spare ∈ lw_tbl := tk_8 (j := 132) rfl
set_option maxRecDepth 20000 in
theorem tw_1350 : Cond.methodLink RL 152 yX11_spare ∈ lw_tbl := tk_8 (j := 131) rfl
set_option maxRecDepth 20000 in
theorem tw_1351 : Cond.code yX10_critical cX10_critical 1 (some .int) ∈ lw_tbl := tk_5 (j := 101) rfl
set_option maxRecDepth 20000 in
theorem tw_1352 : Cond.fieldLink RX10 264 "NotAtOnce$Frames" "staying" "I" ∈ lw_tbl := tk_2 (j := 78) rfl
set_option maxRecDepth 20000 in
theorem tw_1353 : Cond.selects RX10 yX10_critical yX10_critical ∈ lw_tbl := tk_5 (j := 100) rfl
set_option maxRecDepth 20000 in
theorem tw_1354 : Cond.instanceMethod yX10_critical ∈ lw_tbl := tk_5 (j := 99) rfl
set_option maxRecDepth 20000 in
theorem tw_1355 : Cond.methodLink RL 153 yX10_critical ∈ lw_tbl := tk_5 (j := 98) rfl
set_option maxRecDepth 20000 in
theorem tw_1356 : Cond.code yX11_critical cX11_critical 3 (some .int) ∈ lw_tbl := tk_8 (j := 142) rfl
set_option maxRecDepth 20000 in
theorem tw_1357 : Cond.selects RX11 yX11_critical yX11_critical ∈ lw_tbl := tk_8 (j := 141) rfl
set_option maxRecDepth 20000 in
theorem tw_1358 : Cond.instanceMethod yX11_critical ∈ lw_tbl := tk_8 (j := 140) rfl
set_option maxRecDepth 20000 in
theorem tw_1359 : Cond.methodLink RL 156 yX11_critical ∈ lw_tbl := tk_8 (j := 139) rfl
set_option maxRecDepth 20000 in
theorem tw_1360 : Cond.code yX10_memory cX10_memory 1 (some .int) ∈ lw_tbl := tk_5 (j := 105) rfl
set_option maxRecDepth 20000 in
theorem tw_1361 : Cond.methodLink RX9 53 yX9_tell ∈ lw_tbl := tk_5 (j := 110) rfl
set_option maxRecDepth 20000 in
theorem tw_1362 : Cond.fieldLink RX9 50 "NotAtOnce$Telling" "states" "I" ∈ lw_tbl := tk_2 (j := 119) rfl
set_option maxRecDepth 20000 in
theorem tw_1363 : Cond.code yX9_work cX9_work 3 none ∈ lw_tbl := tk_5 (j := 109) rfl
set_option maxRecDepth 20000 in
theorem tw_1364 : Cond.selects RX9 yX9_work yX9_work ∈ lw_tbl := tk_5 (j := 108) rfl
set_option maxRecDepth 20000 in
theorem tw_1365 : Cond.instanceMethod yX9_work ∈ lw_tbl := tk_5 (j := 107) rfl
set_option maxRecDepth 20000 in
theorem tw_1366 : Cond.methodLink RX10 267 yX9_work ∈ lw_tbl := tk_5 (j := 106) rfl
set_option maxRecDepth 20000 in
theorem tw_1367 : Cond.fieldLink RX10 268 "NotAtOnce$Telling" "states" "I" ∈ lw_tbl := tk_2 (j := 120) rfl
set_option maxRecDepth 20000 in
theorem tw_1368 : Cond.code yX9_tellOn cX9_tellOn 5 (some .int) ∈ lw_tbl := tk_5 (j := 117) rfl
set_option maxRecDepth 20000 in
theorem tw_1369 : Cond.selects RX9 yX9_tellOn yX9_tellOn ∈ lw_tbl := ts_4 (q := (yX9_tellOn, 10)) (List.mem_of_getElem? (i := 0) rfl)
set_option maxRecDepth 20000 in
theorem tw_1370 : Cond.instanceMethod yX9_tellOn ∈ lw_tbl := tk_5 (j := 116) rfl
set_option maxRecDepth 20000 in
theorem tw_1371 : Cond.methodLink RX9 57 yX9_tellOn ∈ lw_tbl := tk_5 (j := 114) rfl
set_option maxRecDepth 20000 in
theorem tw_1372 : Cond.methodLink RX9 66 Lib.Math.max.name ∈ lw_tbl := by decide +kernel
set_option maxRecDepth 20000 in
theorem tw_1373 : Cond.methodLink RX9 60 Lib.Math.min.name ∈ lw_tbl := by decide +kernel
set_option maxRecDepth 20000 in
theorem tw_1374 : Cond.code yX9_tell cX9_tell 11 (some .int) ∈ lw_tbl := tk_5 (j := 113) rfl
set_option maxRecDepth 20000 in
theorem tw_1375 : Cond.selects RX9 yX9_tell yX9_tell ∈ lw_tbl := ts_3 (q := (yX9_tell, 10)) (List.mem_of_getElem? (i := 15) rfl)
set_option maxRecDepth 20000 in
theorem tw_1376 : Cond.instanceMethod yX9_tell ∈ lw_tbl := tk_5 (j := 112) rfl
set_option maxRecDepth 20000 in
theorem tw_1377 : Cond.selects RX10 yX10_memory yX10_memory ∈ lw_tbl := tk_5 (j := 104) rfl
set_option maxRecDepth 20000 in
theorem tw_1378 : Cond.instanceMethod yX10_memory ∈ lw_tbl := tk_5 (j := 103) rfl
set_option maxRecDepth 20000 in
theorem tw_1379 : Cond.methodLink RL 157 yX10_memory ∈ lw_tbl := tk_5 (j := 102) rfl
