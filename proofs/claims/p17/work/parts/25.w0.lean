theorem tk_1 {w : Cond} {j : Nat} (h : tables_1_1[j]? = some w) : w ∈ lw_tbl := List.mem_append_right _ (List.mem_append_left _ (List.mem_of_getElem? h))
theorem tk_2 {w : Cond} {j : Nat} (h : tables_1_2[j]? = some w) : w ∈ lw_tbl := List.mem_append_right _ (List.mem_append_right _ (List.mem_append_left _ (List.mem_of_getElem? h)))
theorem tk_3 {w : Cond} {j : Nat} (h : tables_1_3[j]? = some w) : w ∈ lw_tbl := List.mem_append_right _ (List.mem_append_right _ (List.mem_append_right _ (List.mem_append_left _ (List.mem_of_getElem? h))))
theorem tk_4 {w : Cond} {j : Nat} (h : tables_1_4[j]? = some w) : w ∈ lw_tbl := List.mem_append_right _ (List.mem_append_right _ (List.mem_append_right _ (List.mem_append_right _ (List.mem_append_left _ (List.mem_of_getElem? h)))))
theorem tk_5 {w : Cond} {j : Nat} (h : tables_1_5[j]? = some w) : w ∈ lw_tbl := List.mem_append_right _ (List.mem_append_right _ (List.mem_append_right _ (List.mem_append_right _ (List.mem_append_right _ (List.mem_append_left _ (List.mem_of_getElem? h))))))
theorem tk_6 {w : Cond} {j : Nat} (h : tables_1_6[j]? = some w) : w ∈ lw_tbl := List.mem_append_right _ (List.mem_append_right _ (List.mem_append_right _ (List.mem_append_right _ (List.mem_append_right _ (List.mem_append_right _ (List.mem_append_left _ (List.mem_of_getElem? h)))))))
theorem tk_7 {w : Cond} {j : Nat} (h : tables_1_7[j]? = some w) : w ∈ lw_tbl := List.mem_append_right _ (List.mem_append_right _ (List.mem_append_right _ (List.mem_append_right _ (List.mem_append_right _ (List.mem_append_right _ (List.mem_append_right _ (List.mem_append_left _ (List.mem_of_getElem? h))))))))
theorem tk_8 {w : Cond} {j : Nat} (h : tables_1_8[j]? = some w) : w ∈ lw_tbl := List.mem_append_right _ (List.mem_append_right _ (List.mem_append_right _ (List.mem_append_right _ (List.mem_append_right _ (List.mem_append_right _ (List.mem_append_right _ (List.mem_append_right _ (List.mem_append_left _ (List.mem_of_getElem? h)))))))))
theorem tk_9 {w : Cond} {j : Nat} (h : tables_1_9[j]? = some w) : w ∈ lw_tbl := List.mem_append_right _ (List.mem_append_right _ (List.mem_append_right _ (List.mem_append_right _ (List.mem_append_right _ (List.mem_append_right _ (List.mem_append_right _ (List.mem_append_right _ (List.mem_append_right _ (List.mem_of_getElem? h)))))))))
theorem ts_1 {q : MethodName × Nat} (h : q ∈ lw_privs_1) : Cond.selects q.1.cls q.1 q.1 ∈ lw_tbl := List.mem_append_left _ (List.mem_map.mpr ⟨q, (List.mem_append_left _ h), rfl⟩)
theorem ts_2 {q : MethodName × Nat} (h : q ∈ lw_privs_2) : Cond.selects q.1.cls q.1 q.1 ∈ lw_tbl := List.mem_append_left _ (List.mem_map.mpr ⟨q, (List.mem_append_right _ (List.mem_append_left _ h)), rfl⟩)
theorem ts_3 {q : MethodName × Nat} (h : q ∈ lw_privs_3) : Cond.selects q.1.cls q.1 q.1 ∈ lw_tbl := List.mem_append_left _ (List.mem_map.mpr ⟨q, (List.mem_append_right _ (List.mem_append_right _ (List.mem_append_left _ h))), rfl⟩)
theorem ts_4 {q : MethodName × Nat} (h : q ∈ lw_privs_4) : Cond.selects q.1.cls q.1 q.1 ∈ lw_tbl := List.mem_append_left _ (List.mem_map.mpr ⟨q, (List.mem_append_right _ (List.mem_append_right _ (List.mem_append_right _ (List.mem_append_left _ h)))), rfl⟩)
theorem ts_5 {q : MethodName × Nat} (h : q ∈ lw_privs_5) : Cond.selects q.1.cls q.1 q.1 ∈ lw_tbl := List.mem_append_left _ (List.mem_map.mpr ⟨q, (List.mem_append_right _ (List.mem_append_right _ (List.mem_append_right _ (List.mem_append_right _ (List.mem_append_left _ h))))), rfl⟩)
theorem ts_6 {q : MethodName × Nat} (h : q ∈ lw_privs_6) : Cond.selects q.1.cls q.1 q.1 ∈ lw_tbl := List.mem_append_left _ (List.mem_map.mpr ⟨q, (List.mem_append_right _ (List.mem_append_right _ (List.mem_append_right _ (List.mem_append_right _ (List.mem_append_right _ (List.mem_append_left _ h)))))), rfl⟩)
theorem ts_7 {q : MethodName × Nat} (h : q ∈ lw_privs_7) : Cond.selects q.1.cls q.1 q.1 ∈ lw_tbl := List.mem_append_left _ (List.mem_map.mpr ⟨q, (List.mem_append_right _ (List.mem_append_right _ (List.mem_append_right _ (List.mem_append_right _ (List.mem_append_right _ (List.mem_append_right _ (List.mem_append_left _ h))))))), rfl⟩)
theorem ts_8 {q : MethodName × Nat} (h : q ∈ lw_privs_8) : Cond.selects q.1.cls q.1 q.1 ∈ lw_tbl := List.mem_append_left _ (List.mem_map.mpr ⟨q, (List.mem_append_right _ (List.mem_append_right _ (List.mem_append_right _ (List.mem_append_right _ (List.mem_append_right _ (List.mem_append_right _ (List.mem_append_right _ h))))))), rfl⟩)
set_option maxRecDepth 20000 in
theorem tw_0 : Cond.constant RJ6 265 (1431655765) ∈ lw_tbl := tk_3 (j := 182) rfl
set_option maxRecDepth 20000 in
theorem tw_1 : Cond.constant RJ6 266 (858993459) ∈ lw_tbl := tk_3 (j := 183) rfl
set_option maxRecDepth 20000 in
theorem tw_2 : Cond.constant RJ6 267 (252645135) ∈ lw_tbl := tk_3 (j := 184) rfl
set_option maxRecDepth 20000 in
theorem tw_3 : Cond.fieldLink RJ0 9 "java/lang/String" "value" "[B" ∈ lw_tbl := tk_9 (j := 5) rfl
set_option maxRecDepth 20000 in
theorem tw_4 : Cond.code yJ0_coder_7d493 cJ0_coder_7d493 1 (some .byte) ∈ lw_tbl := tk_3 (j := 44) rfl
set_option maxRecDepth 20000 in
theorem tw_5 : Cond.methodLink RJ0 335 yJ0_coder_7d493 ∈ lw_tbl := tk_3 (j := 41) rfl
set_option maxRecDepth 20000 in
theorem tw_6 : Cond.initialized RJ0 ∈ lw_tbl := tk_1 (j := 14) rfl
set_option maxRecDepth 20000 in
theorem tw_7 : Cond.instanceMethod yJ0_coder_7d493 ∈ lw_tbl := tk_3 (j := 42) rfl
set_option maxRecDepth 20000 in
theorem tw_8 : Cond.selects RJ0 yJ0_coder_7d493 yJ0_coder_7d493 ∈ lw_tbl := tk_3 (j := 43) rfl
set_option maxRecDepth 20000 in
theorem tw_9 : Cond.code yJ0_isLatin1_aae02 cJ0_isLatin1_aae02 1 (some .boolean) ∈ lw_tbl := tk_3 (j := 54) rfl
set_option maxRecDepth 20000 in
theorem tw_10 : Cond.methodLink RJ0 492 yJ0_isLatin1_aae02 ∈ lw_tbl := tk_3 (j := 51) rfl
set_option maxRecDepth 20000 in
theorem tw_11 : Cond.instanceMethod yJ0_isLatin1_aae02 ∈ lw_tbl := tk_3 (j := 52) rfl
set_option maxRecDepth 20000 in
theorem tw_12 : Cond.selects RJ0 yJ0_isLatin1_aae02 yJ0_isLatin1_aae02 ∈ lw_tbl := tk_3 (j := 53) rfl
set_option maxRecDepth 20000 in
theorem tw_13 : Cond.code yJ1_charAt_3b067 cJ1_charAt_3b067 2 (some .char) ∈ lw_tbl := tk_3 (j := 57) rfl
set_option maxRecDepth 20000 in
theorem tw_14 : Cond.methodLink RJ0 495 yJ1_charAt_3b067 ∈ lw_tbl := tk_3 (j := 55) rfl
set_option maxRecDepth 20000 in
theorem tw_15 : Cond.initialized RJ1 ∈ lw_tbl := tk_1 (j := 15) rfl
set_option maxRecDepth 20000 in
theorem tw_16 : Cond.static yJ1_charAt_3b067 ∈ lw_tbl := tk_3 (j := 56) rfl
set_option maxRecDepth 20000 in
theorem tw_17 : Cond.fieldLink RJ0 38 "java/lang/String" "COMPACT_STRINGS" "Z" ∈ lw_tbl := tk_3 (j := 45) rfl
set_option maxRecDepth 20000 in
theorem tw_18 : Cond.fieldLink RJ0 15 "java/lang/String" "coder" "B" ∈ lw_tbl := tk_9 (j := 6) rfl
set_option maxRecDepth 20000 in
theorem tw_19 : Cond.fieldLink RJ0 1053 "jdk/internal/util/Preconditions" "SIOOBE_FORMATTER" "Ljava/util/function/BiFunction;" ∈ lw_tbl := tk_3 (j := 61) rfl
set_option maxRecDepth 20000 in
theorem tw_20 : Cond.code yJ3_checkIndex_8e157 cJ3_checkIndex_8e157 3 (some .int) ∈ lw_tbl := tk_3 (j := 65) rfl
set_option maxRecDepth 20000 in
theorem tw_21 : Cond.methodLink RJ0 1059 yJ3_checkIndex_8e157 ∈ lw_tbl := tk_3 (j := 63) rfl
set_option maxRecDepth 20000 in
theorem tw_22 : Cond.initialized RJ3 ∈ lw_tbl := tk_1 (j := 16) rfl
set_option maxRecDepth 20000 in
theorem tw_23 : Cond.static yJ3_checkIndex_8e157 ∈ lw_tbl := tk_3 (j := 64) rfl
set_option maxRecDepth 20000 in
theorem tw_24 : Cond.code yJ0_checkIndex_df160 cJ0_checkIndex_df160 2 none ∈ lw_tbl := tk_3 (j := 60) rfl
set_option maxRecDepth 20000 in
theorem tw_25 : Cond.methodLink RJ1 9 yJ0_checkIndex_df160 ∈ lw_tbl := tk_3 (j := 58) rfl
set_option maxRecDepth 20000 in
theorem tw_26 : Cond.static yJ0_checkIndex_df160 ∈ lw_tbl := tk_3 (j := 59) rfl
set_option maxRecDepth 20000 in
theorem tw_27 : Cond.fieldLink RX8 24 "NotAtOnce$Draft" "law" "I" ∈ lw_tbl := tk_1 (j := 45) rfl
set_option maxRecDepth 20000 in
theorem tw_28 : Cond.fieldLink RX8 31 "NotAtOnce$Draft" "looks" "I" ∈ lw_tbl := tk_1 (j := 48) rfl
set_option maxRecDepth 20000 in
theorem tw_29 : Cond.fieldLink RX8 35 "NotAtOnce$Draft" "sets" "I" ∈ lw_tbl := tk_1 (j := 54) rfl
set_option maxRecDepth 20000 in
theorem tw_30 : Cond.fieldLink RX8 41 "NotAtOnce$Draft" "first" "[I" ∈ lw_tbl := tk_1 (j := 66) rfl
set_option maxRecDepth 20000 in
theorem tw_31 : Cond.fieldLink RX8 9 "NotAtOnce$Table" "first" "[I" ∈ lw_tbl := tk_1 (j := 185) rfl
set_option maxRecDepth 20000 in
theorem tw_32 : Cond.fieldLink RX8 48 "NotAtOnce$Draft" "second" "[I" ∈ lw_tbl := tk_1 (j := 69) rfl
set_option maxRecDepth 20000 in
theorem tw_33 : Cond.fieldLink RX8 15 "NotAtOnce$Table" "second" "[I" ∈ lw_tbl := tk_1 (j := 188) rfl
set_option maxRecDepth 20000 in
theorem tw_34 : Cond.fieldLink RX8 49 "NotAtOnce$Draft" "times" "[I" ∈ lw_tbl := tk_1 (j := 72) rfl
set_option maxRecDepth 20000 in
theorem tw_35 : Cond.fieldLink RX8 18 "NotAtOnce$Table" "times" "[I" ∈ lw_tbl := tk_1 (j := 191) rfl
set_option maxRecDepth 20000 in
theorem tw_36 : Cond.fieldLink RX8 53 "NotAtOnce$Table" "version" "I" ∈ lw_tbl := tk_1 (j := 184) rfl
set_option maxRecDepth 20000 in
theorem tw_37 : Cond.fieldLink RX8 30 "NotAtOnce$Table" "law" "I" ∈ lw_tbl := tk_1 (j := 173) rfl
set_option maxRecDepth 20000 in
theorem tw_38 : Cond.fieldLink RX8 34 "NotAtOnce$Table" "looks" "I" ∈ lw_tbl := tk_1 (j := 177) rfl
set_option maxRecDepth 20000 in
theorem tw_39 : Cond.fieldLink RX8 38 "NotAtOnce$Table" "count" "I" ∈ lw_tbl := tk_1 (j := 181) rfl
set_option maxRecDepth 20000 in
theorem tw_40 : Cond.methodLink RX8 42 arraycopyName ∈ lw_tbl := tk_3 (j := 164) rfl
set_option maxRecDepth 20000 in
theorem tw_41 : Cond.native arraycopyName ∈ lw_tbl := tk_3 (j := 166) rfl
set_option maxRecDepth 20000 in
theorem tw_42 : Cond.static arraycopyName ∈ lw_tbl := tk_3 (j := 165) rfl
set_option maxRecDepth 20000 in
theorem tw_43 : Cond.initialized "java/lang/System" ∈ lw_tbl := tk_1 (j := 18) rfl
set_option maxRecDepth 20000 in
theorem tw_44 : Cond.code yX8_clearCoins cX8_clearCoins 2 none ∈ lw_tbl := tk_3 (j := 170) rfl
set_option maxRecDepth 20000 in
theorem tw_45 : Cond.methodLink RX8 50 yX8_clearCoins ∈ lw_tbl := tk_3 (j := 167) rfl
set_option maxRecDepth 20000 in
theorem tw_46 : Cond.initialized RX8 ∈ lw_tbl := tk_1 (j := 4) rfl
set_option maxRecDepth 20000 in
theorem tw_47 : Cond.instanceMethod yX8_clearCoins ∈ lw_tbl := tk_3 (j := 169) rfl
set_option maxRecDepth 20000 in
theorem tw_48 : Cond.selects RX8 yX8_clearCoins yX8_clearCoins ∈ lw_tbl := ts_2 (List.mem_of_getElem? (i := 6) rfl)
set_option maxRecDepth 20000 in
theorem tw_49 : Cond.fieldLink RX8 21 "NotAtOnce$Table" "coins" "[I" ∈ lw_tbl := tk_1 (j := 194) rfl
set_option maxRecDepth 20000 in
theorem tw_50 : Cond.code yX8_hasSet cX8_hasSet 2 (some .boolean) ∈ lw_tbl := tk_4 (j := 96) rfl
set_option maxRecDepth 20000 in
theorem tw_51 : Cond.methodLink RX8 56 yX8_hasSet ∈ lw_tbl := tk_4 (j := 93) rfl
set_option maxRecDepth 20000 in
theorem tw_52 : Cond.instanceMethod yX8_hasSet ∈ lw_tbl := tk_4 (j := 94) rfl
set_option maxRecDepth 20000 in
theorem tw_53 : Cond.selects RX8 yX8_hasSet yX8_hasSet ∈ lw_tbl := tk_4 (j := 95) rfl
set_option maxRecDepth 20000 in
theorem tw_54 : Cond.code yX8_outcomes cX8_outcomes 2 (some .int) ∈ lw_tbl := tk_4 (j := 100) rfl
set_option maxRecDepth 20000 in
theorem tw_55 : Cond.methodLink RX8 60 yX8_outcomes ∈ lw_tbl := tk_4 (j := 97) rfl
set_option maxRecDepth 20000 in
theorem tw_56 : Cond.instanceMethod yX8_outcomes ∈ lw_tbl := tk_4 (j := 98) rfl
set_option maxRecDepth 20000 in
theorem tw_57 : Cond.selects RX8 yX8_outcomes yX8_outcomes ∈ lw_tbl := tk_4 (j := 99) rfl
set_option maxRecDepth 20000 in
theorem tw_58 : Cond.code yX8_cellOf cX8_cellOf 4 (some .int) ∈ lw_tbl := tk_4 (j := 23) rfl
set_option maxRecDepth 20000 in
theorem tw_59 : Cond.methodLink RX8 64 yX8_cellOf ∈ lw_tbl := tk_4 (j := 20) rfl
set_option maxRecDepth 20000 in
theorem tw_60 : Cond.instanceMethod yX8_cellOf ∈ lw_tbl := tk_4 (j := 21) rfl
set_option maxRecDepth 20000 in
theorem tw_61 : Cond.selects RX8 yX8_cellOf yX8_cellOf ∈ lw_tbl := tk_4 (j := 22) rfl
set_option maxRecDepth 20000 in
theorem tw_62 : Cond.code yX8_hiddenAnswers cX8_hiddenAnswers 1 (some .int) ∈ lw_tbl := tk_4 (j := 15) rfl
set_option maxRecDepth 20000 in
theorem tw_63 : Cond.methodLink RX8 68 yX8_hiddenAnswers ∈ lw_tbl := tk_4 (j := 105) rfl
set_option maxRecDepth 20000 in
theorem tw_64 : Cond.instanceMethod yX8_hiddenAnswers ∈ lw_tbl := tk_4 (j := 13) rfl
set_option maxRecDepth 20000 in
theorem tw_65 : Cond.selects RX8 yX8_hiddenAnswers yX8_hiddenAnswers ∈ lw_tbl := tk_4 (j := 14) rfl
set_option maxRecDepth 20000 in
theorem tw_66 : Cond.code yX8_missed cX8_missed 4 (some .int) ∈ lw_tbl := tk_4 (j := 19) rfl
set_option maxRecDepth 20000 in
theorem tw_67 : Cond.methodLink RX8 72 yX8_missed ∈ lw_tbl := tk_4 (j := 106) rfl
set_option maxRecDepth 20000 in
theorem tw_68 : Cond.instanceMethod yX8_missed ∈ lw_tbl := tk_4 (j := 17) rfl
set_option maxRecDepth 20000 in
theorem tw_69 : Cond.selects RX8 yX8_missed yX8_missed ∈ lw_tbl := tk_4 (j := 18) rfl
set_option maxRecDepth 20000 in
theorem tw_70 : Cond.code yX8_onesOf cX8_onesOf 4 (some .int) ∈ lw_tbl := tk_4 (j := 142) rfl
set_option maxRecDepth 20000 in
theorem tw_71 : Cond.methodLink RX8 75 yX8_onesOf ∈ lw_tbl := tk_4 (j := 139) rfl
set_option maxRecDepth 20000 in
theorem tw_72 : Cond.instanceMethod yX8_onesOf ∈ lw_tbl := tk_4 (j := 141) rfl
set_option maxRecDepth 20000 in
theorem tw_73 : Cond.selects RX8 yX8_onesOf yX8_onesOf ∈ lw_tbl := ts_3 (List.mem_of_getElem? (i := 7) rfl)
set_option maxRecDepth 20000 in
theorem tw_74 : Cond.code yX8_pay cX8_pay 4 (some .int) ∈ lw_tbl := tk_4 (j := 239) rfl
set_option maxRecDepth 20000 in
theorem tw_75 : Cond.methodLink RX8 78 yX8_pay ∈ lw_tbl := tk_4 (j := 236) rfl
set_option maxRecDepth 20000 in
theorem tw_76 : Cond.instanceMethod yX8_pay ∈ lw_tbl := tk_4 (j := 237) rfl
set_option maxRecDepth 20000 in
theorem tw_77 : Cond.selects RX8 yX8_pay yX8_pay ∈ lw_tbl := tk_4 (j := 238) rfl
set_option maxRecDepth 20000 in
theorem tw_78 : Cond.code yX8_swap cX8_swap 5 none ∈ lw_tbl := tk_5 (j := 151) rfl
set_option maxRecDepth 20000 in
theorem tw_79 : Cond.methodLink RX8 81 yX8_swap ∈ lw_tbl := tk_5 (j := 148) rfl
set_option maxRecDepth 20000 in
theorem tw_80 : Cond.instanceMethod yX8_swap ∈ lw_tbl := tk_5 (j := 150) rfl
set_option maxRecDepth 20000 in
theorem tw_81 : Cond.selects RX8 yX8_swap yX8_swap ∈ lw_tbl := ts_4 (List.mem_of_getElem? (i := 2) rfl)
set_option maxRecDepth 20000 in
theorem tw_82 : Cond.code yX8_putTogether cX8_putTogether 8 none ∈ lw_tbl := tk_5 (j := 177) rfl
set_option maxRecDepth 20000 in
theorem tw_83 : Cond.methodLink RX8 89 yX8_putTogether ∈ lw_tbl := tk_5 (j := 174) rfl
set_option maxRecDepth 20000 in
theorem tw_84 : Cond.instanceMethod yX8_putTogether ∈ lw_tbl := tk_5 (j := 176) rfl
set_option maxRecDepth 20000 in
theorem tw_85 : Cond.selects RX8 yX8_putTogether yX8_putTogether ∈ lw_tbl := ts_4 (List.mem_of_getElem? (i := 3) rfl)
set_option maxRecDepth 20000 in
theorem tw_86 : Cond.code yX8_remove cX8_remove 4 none ∈ lw_tbl := tk_5 (j := 160) rfl
set_option maxRecDepth 20000 in
theorem tw_87 : Cond.methodLink RX8 85 yX8_remove ∈ lw_tbl := tk_5 (j := 173) rfl
set_option maxRecDepth 20000 in
theorem tw_88 : Cond.instanceMethod yX8_remove ∈ lw_tbl := tk_5 (j := 158) rfl
set_option maxRecDepth 20000 in
theorem tw_89 : Cond.selects RX8 yX8_remove yX8_remove ∈ lw_tbl := tk_5 (j := 159) rfl
set_option maxRecDepth 20000 in
theorem tw_90 : Cond.code yX2_commonPart cX2_commonPart 11 (some .long) ∈ lw_tbl := tk_4 (j := 3) rfl
set_option maxRecDepth 20000 in
theorem tw_91 : Cond.methodLink RX2 13 yX2_commonPart ∈ lw_tbl := tk_4 (j := 1) rfl
set_option maxRecDepth 20000 in
theorem tw_92 : Cond.initialized RX2 ∈ lw_tbl := tk_1 (j := 6) rfl
set_option maxRecDepth 20000 in
theorem tw_93 : Cond.static yX2_commonPart ∈ lw_tbl := tk_4 (j := 2) rfl
set_option maxRecDepth 20000 in
theorem tw_94 : Cond.fieldLink RX2 17 "NotAtOnce$Fraction" "upper" "J" ∈ lw_tbl := tk_1 (j := 229) rfl
set_option maxRecDepth 20000 in
theorem tw_95 : Cond.fieldLink RX2 7 "NotAtOnce$Fraction" "lower" "J" ∈ lw_tbl := tk_1 (j := 230) rfl
set_option maxRecDepth 20000 in
theorem tw_96 : Cond.fieldLink RX7 9 "NotAtOnce$Rings" "table" "LNotAtOnce$Table;" ∈ lw_tbl := tk_1 (j := 219) rfl
set_option maxRecDepth 20000 in
theorem tw_97 : Cond.fieldLink RX7 15 "NotAtOnce$Table" "count" "I" ∈ lw_tbl := tk_1 (j := 180) rfl
set_option maxRecDepth 20000 in
theorem tw_98 : Cond.code yJ6_bitCount_0f7a4 cJ6_bitCount_0f7a4 1 (some .int) ∈ lw_tbl := tk_3 (j := 181) rfl
set_option maxRecDepth 20000 in
theorem tw_99 : Cond.methodLink RX7 21 yJ6_bitCount_0f7a4 ∈ lw_tbl := tk_4 (j := 167) rfl
set_option maxRecDepth 20000 in
theorem tw_100 : Cond.initialized RJ6 ∈ lw_tbl := tk_1 (j := 19) rfl
set_option maxRecDepth 20000 in
theorem tw_101 : Cond.static yJ6_bitCount_0f7a4 ∈ lw_tbl := tk_3 (j := 180) rfl
set_option maxRecDepth 20000 in
theorem tw_102 : Cond.code yX7_hangsTogether cX7_hangsTogether 6 (some .boolean) ∈ lw_tbl := tk_4 (j := 176) rfl
set_option maxRecDepth 20000 in
theorem tw_103 : Cond.methodLink RX7 34 yX7_hangsTogether ∈ lw_tbl := tk_4 (j := 173) rfl
set_option maxRecDepth 20000 in
theorem tw_104 : Cond.initialized RX7 ∈ lw_tbl := tk_1 (j := 5) rfl
set_option maxRecDepth 20000 in
theorem tw_105 : Cond.instanceMethod yX7_hangsTogether ∈ lw_tbl := tk_4 (j := 175) rfl
set_option maxRecDepth 20000 in
theorem tw_106 : Cond.selects RX7 yX7_hangsTogether yX7_hangsTogether ∈ lw_tbl := ts_3 (List.mem_of_getElem? (i := 9) rfl)
set_option maxRecDepth 20000 in
theorem tw_107 : Cond.code yX8_hasPair cX8_hasPair 2 (some .boolean) ∈ lw_tbl := tk_4 (j := 150) rfl
set_option maxRecDepth 20000 in
theorem tw_108 : Cond.methodLink RX7 27 yX8_hasPair ∈ lw_tbl := tk_4 (j := 168) rfl
set_option maxRecDepth 20000 in
theorem tw_109 : Cond.instanceMethod yX8_hasPair ∈ lw_tbl := tk_4 (j := 148) rfl
set_option maxRecDepth 20000 in
theorem tw_110 : Cond.selects RX8 yX8_hasPair yX8_hasPair ∈ lw_tbl := tk_4 (j := 149) rfl
set_option maxRecDepth 20000 in
theorem tw_111 : Cond.code yX7_looksOf cX7_looksOf 2 (some .int) ∈ lw_tbl := tk_4 (j := 172) rfl
set_option maxRecDepth 20000 in
theorem tw_112 : Cond.methodLink RX7 31 yX7_looksOf ∈ lw_tbl := tk_4 (j := 169) rfl
set_option maxRecDepth 20000 in
theorem tw_113 : Cond.instanceMethod yX7_looksOf ∈ lw_tbl := tk_4 (j := 171) rfl
set_option maxRecDepth 20000 in
theorem tw_114 : Cond.selects RX7 yX7_looksOf yX7_looksOf ∈ lw_tbl := ts_3 (List.mem_of_getElem? (i := 8) rfl)
set_option maxRecDepth 20000 in
theorem tw_115 : Cond.fieldLink RX7 38 "NotAtOnce$Table" "first" "[I" ∈ lw_tbl := tk_1 (j := 186) rfl
set_option maxRecDepth 20000 in
theorem tw_116 : Cond.fieldLink RX7 42 "NotAtOnce$Table" "second" "[I" ∈ lw_tbl := tk_1 (j := 189) rfl
set_option maxRecDepth 20000 in
theorem tw_117 : Cond.code yX7_isRing cX7_isRing 7 (some .boolean) ∈ lw_tbl := tk_4 (j := 166) rfl
set_option maxRecDepth 20000 in
theorem tw_118 : Cond.methodLink RX7 45 yX7_isRing ∈ lw_tbl := tk_4 (j := 163) rfl
set_option maxRecDepth 20000 in
theorem tw_119 : Cond.instanceMethod yX7_isRing ∈ lw_tbl := tk_4 (j := 164) rfl
set_option maxRecDepth 20000 in
theorem tw_120 : Cond.selects RX7 yX7_isRing yX7_isRing ∈ lw_tbl := tk_4 (j := 165) rfl
set_option maxRecDepth 20000 in
theorem tw_121 : Cond.fieldLink RX7 60 "NotAtOnce$Table" "law" "I" ∈ lw_tbl := tk_1 (j := 175) rfl
set_option maxRecDepth 20000 in
theorem tw_122 : Cond.code yX8_alike cX8_alike 3 (some .int) ∈ lw_tbl := tk_4 (j := 154) rfl
set_option maxRecDepth 20000 in
theorem tw_123 : Cond.methodLink RX7 48 yX8_alike ∈ lw_tbl := tk_4 (j := 194) rfl
set_option maxRecDepth 20000 in
theorem tw_124 : Cond.instanceMethod yX8_alike ∈ lw_tbl := tk_4 (j := 152) rfl
set_option maxRecDepth 20000 in
theorem tw_125 : Cond.selects RX8 yX8_alike yX8_alike ∈ lw_tbl := tk_4 (j := 153) rfl
set_option maxRecDepth 20000 in
theorem tw_126 : Cond.methodLink RX7 51 Lib.Math.abs.name ∈ lw_tbl := tk_4 (j := 195) rfl
set_option maxRecDepth 20000 in
theorem tw_127 : Cond.static Lib.Math.abs.name ∈ lw_tbl := tk_4 (j := 196) rfl
set_option maxRecDepth 20000 in
theorem tw_128 : Cond.initialized "java/lang/Math" ∈ lw_tbl := tk_1 (j := 13) rfl
set_option maxRecDepth 20000 in
theorem tw_129 : Cond.code Lib.Math.abs.name Lib.Math.abs.code 1 (some .int) ∈ lw_tbl := tk_4 (j := 197) rfl
set_option maxRecDepth 20000 in
theorem tw_130 : Cond.methodLink RX7 56 Lib.Math.min.name ∈ lw_tbl := tk_4 (j := 198) rfl
set_option maxRecDepth 20000 in
theorem tw_131 : Cond.static Lib.Math.min.name ∈ lw_tbl := tk_3 (j := 12) rfl
set_option maxRecDepth 20000 in
theorem tw_132 : Cond.code Lib.Math.min.name Lib.Math.min.code 2 (some .int) ∈ lw_tbl := tk_3 (j := 13) rfl
set_option maxRecDepth 20000 in
theorem tw_133 : Cond.code yX7_surplus cX7_surplus 7 (some .int) ∈ lw_tbl := tk_4 (j := 193) rfl
set_option maxRecDepth 20000 in
theorem tw_134 : Cond.methodLink RX7 63 yX7_surplus ∈ lw_tbl := tk_4 (j := 207) rfl
set_option maxRecDepth 20000 in
theorem tw_135 : Cond.instanceMethod yX7_surplus ∈ lw_tbl := tk_4 (j := 191) rfl
set_option maxRecDepth 20000 in
theorem tw_136 : Cond.selects RX7 yX7_surplus yX7_surplus ∈ lw_tbl := tk_4 (j := 192) rfl
set_option maxRecDepth 20000 in
theorem tw_137 : Cond.fieldLink RX5 19 "NotAtOnce$Draft" "points" "I" ∈ lw_tbl := tk_1 (j := 50) rfl
set_option maxRecDepth 20000 in
theorem tw_138 : Cond.fieldLink RX5 25 "NotAtOnce$Draft" "lines" "I" ∈ lw_tbl := tk_1 (j := 56) rfl
set_option maxRecDepth 20000 in
theorem tw_139 : Cond.fieldLink RX5 28 "NotAtOnce$Parities" "lines" "I" ∈ lw_tbl := tk_2 (j := 40) rfl
set_option maxRecDepth 20000 in
theorem tw_140 : Cond.fieldLink RX5 15 "NotAtOnce$Parities" "held" "[Z" ∈ lw_tbl := tk_2 (j := 46) rfl
set_option maxRecDepth 20000 in
theorem tw_141 : Cond.fieldLink RX5 24 "NotAtOnce$Parities" "points" "I" ∈ lw_tbl := tk_2 (j := 38) rfl
set_option maxRecDepth 20000 in
theorem tw_142 : Cond.fieldLink RX5 9 "NotAtOnce$Parities" "ways" "I" ∈ lw_tbl := tk_2 (j := 42) rfl
set_option maxRecDepth 20000 in
theorem tw_143 : Cond.fieldLink RX5 29 "NotAtOnce$Parities" "everOne" "I" ∈ lw_tbl := tk_2 (j := 44) rfl
set_option maxRecDepth 20000 in
theorem tw_144 : Cond.fieldLink RX5 32 "NotAtOnce$Parities" "everNone" "I" ∈ lw_tbl := tk_2 (j := 45) rfl
set_option maxRecDepth 20000 in
theorem tw_145 : Cond.code yX5_spread cX5_spread 3 none ∈ lw_tbl := tk_3 (j := 188) rfl
set_option maxRecDepth 20000 in
theorem tw_146 : Cond.methodLink RX5 39 yX5_spread ∈ lw_tbl := tk_3 (j := 185) rfl
set_option maxRecDepth 20000 in
theorem tw_147 : Cond.initialized RX5 ∈ lw_tbl := tk_1 (j := 8) rfl
set_option maxRecDepth 20000 in
theorem tw_148 : Cond.instanceMethod yX5_spread ∈ lw_tbl := tk_3 (j := 187) rfl
set_option maxRecDepth 20000 in
theorem tw_149 : Cond.selects RX5 yX5_spread yX5_spread ∈ lw_tbl := ts_2 (List.mem_of_getElem? (i := 8) rfl)
set_option maxRecDepth 20000 in
theorem tw_150 : Cond.code yX5_soLines cX5_soLines 5 (some .int) ∈ lw_tbl := tk_3 (j := 178) rfl
set_option maxRecDepth 20000 in
theorem tw_151 : Cond.methodLink RX5 35 yX5_soLines ∈ lw_tbl := tk_3 (j := 175) rfl
set_option maxRecDepth 20000 in
theorem tw_152 : Cond.instanceMethod yX5_soLines ∈ lw_tbl := tk_3 (j := 177) rfl
set_option maxRecDepth 20000 in
theorem tw_153 : Cond.selects RX5 yX5_soLines yX5_soLines ∈ lw_tbl := ts_2 (List.mem_of_getElem? (i := 7) rfl)
set_option maxRecDepth 20000 in
theorem tw_154 : Cond.fieldLink RX5 42 "NotAtOnce$Draft" "lineBits" "[I" ∈ lw_tbl := tk_1 (j := 75) rfl
set_option maxRecDepth 20000 in
theorem tw_155 : Cond.fieldLink RX5 52 "NotAtOnce$Draft" "lineSum" "[I" ∈ lw_tbl := tk_1 (j := 78) rfl
set_option maxRecDepth 20000 in
theorem tw_156 : Cond.methodLink RX5 46 yJ6_bitCount_0f7a4 ∈ lw_tbl := tk_3 (j := 179) rfl
set_option maxRecDepth 20000 in
theorem tw_157 : Cond.methodLink RX5 55 Lib.Math.max.name ∈ lw_tbl := tk_5 (j := 50) rfl
set_option maxRecDepth 20000 in
theorem tw_158 : Cond.static Lib.Math.max.name ∈ lw_tbl := tk_5 (j := 51) rfl
set_option maxRecDepth 20000 in
theorem tw_159 : Cond.code Lib.Math.max.name Lib.Math.max.code 2 (some .int) ∈ lw_tbl := tk_5 (j := 52) rfl
set_option maxRecDepth 20000 in
theorem tw_160 : Cond.fieldLink RX3 18 "NotAtOnce$Draft" "rays" "I" ∈ lw_tbl := tk_1 (j := 59) rfl
set_option maxRecDepth 20000 in
theorem tw_161 : Cond.fieldLink RX3 24 "NotAtOnce$Frames" "rays" "I" ∈ lw_tbl := tk_2 (j := 67) rfl
set_option maxRecDepth 20000 in
theorem tw_162 : Cond.fieldLink RX3 9 "NotAtOnce$Frames" "meets" "[I" ∈ lw_tbl := tk_2 (j := 79) rfl
set_option maxRecDepth 20000 in
theorem tw_163 : Cond.fieldLink RX3 29 "NotAtOnce$Draft" "rayParts" "[I" ∈ lw_tbl := tk_1 (j := 81) rfl
set_option maxRecDepth 20000 in
theorem tw_164 : Cond.fieldLink RX3 25 "NotAtOnce$Frames" "worked" "Z" ∈ lw_tbl := tk_2 (j := 82) rfl
set_option maxRecDepth 20000 in
theorem tw_165 : Cond.code yX3_findCorners cX3_findCorners 3 none ∈ lw_tbl := tk_3 (j := 199) rfl
set_option maxRecDepth 20000 in
theorem tw_166 : Cond.methodLink RX3 36 yX3_findCorners ∈ lw_tbl := tk_3 (j := 196) rfl
set_option maxRecDepth 20000 in
theorem tw_167 : Cond.initialized RX3 ∈ lw_tbl := tk_1 (j := 9) rfl
set_option maxRecDepth 20000 in
theorem tw_168 : Cond.instanceMethod yX3_findCorners ∈ lw_tbl := tk_3 (j := 198) rfl
set_option maxRecDepth 20000 in
theorem tw_169 : Cond.selects RX3 yX3_findCorners yX3_findCorners ∈ lw_tbl := ts_2 (List.mem_of_getElem? (i := 9) rfl)
set_option maxRecDepth 20000 in
theorem tw_170 : Cond.code yX3_product cX3_product 5 (some .int) ∈ lw_tbl := tk_3 (j := 195) rfl
set_option maxRecDepth 20000 in
theorem tw_171 : Cond.methodLink RX3 32 yX3_product ∈ lw_tbl := tk_3 (j := 193) rfl
set_option maxRecDepth 20000 in
theorem tw_172 : Cond.static yX3_product ∈ lw_tbl := tk_3 (j := 194) rfl
set_option maxRecDepth 20000 in
theorem tw_173 : Cond.fieldLink RX3 39 "NotAtOnce$Frames" "corners" "I" ∈ lw_tbl := tk_2 (j := 69) rfl
set_option maxRecDepth 20000 in
theorem tw_174 : Cond.code yX3_findCornersOf cX3_findCornersOf 7 none ∈ lw_tbl := tk_3 (j := 203) rfl
set_option maxRecDepth 20000 in
theorem tw_175 : Cond.methodLink RX3 42 yX3_findCornersOf ∈ lw_tbl := tk_3 (j := 200) rfl
set_option maxRecDepth 20000 in
theorem tw_176 : Cond.instanceMethod yX3_findCornersOf ∈ lw_tbl := tk_3 (j := 202) rfl
set_option maxRecDepth 20000 in
theorem tw_177 : Cond.selects RX3 yX3_findCornersOf yX3_findCornersOf ∈ lw_tbl := ts_2 (List.mem_of_getElem? (i := 10) rfl)
set_option maxRecDepth 20000 in
theorem tw_178 : Cond.fieldLink RX3 15 "NotAtOnce$Frames" "cornerBits" "[I" ∈ lw_tbl := tk_2 (j := 81) rfl
set_option maxRecDepth 20000 in
theorem tw_179 : Cond.fieldLink RX3 53 "NotAtOnce$Frames" "most" "I" ∈ lw_tbl := tk_2 (j := 85) rfl
set_option maxRecDepth 20000 in
theorem tw_180 : Cond.fieldLink RX3 50 "NotAtOnce$Frames" "colourings" "I" ∈ lw_tbl := tk_2 (j := 71) rfl
set_option maxRecDepth 20000 in
theorem tw_181 : Cond.fieldLink RX3 59 "NotAtOnce$Frames" "spares" "I" ∈ lw_tbl := tk_2 (j := 75) rfl
set_option maxRecDepth 20000 in
theorem tw_182 : Cond.fieldLink RX3 62 "NotAtOnce$Frames" "staying" "I" ∈ lw_tbl := tk_2 (j := 77) rfl
set_option maxRecDepth 20000 in
theorem tw_183 : Cond.code yX3_countColours cX3_countColours 2 (some .int) ∈ lw_tbl := tk_5 (j := 76) rfl
set_option maxRecDepth 20000 in
theorem tw_184 : Cond.methodLink RX3 46 yX3_countColours ∈ lw_tbl := tk_5 (j := 73) rfl
set_option maxRecDepth 20000 in
theorem tw_185 : Cond.instanceMethod yX3_countColours ∈ lw_tbl := tk_5 (j := 75) rfl
set_option maxRecDepth 20000 in
theorem tw_186 : Cond.selects RX3 yX3_countColours yX3_countColours ∈ lw_tbl := ts_3 (List.mem_of_getElem? (i := 12) rfl)
set_option maxRecDepth 20000 in
theorem tw_187 : Cond.fieldLink RX3 56 "NotAtOnce$Frames" "mostOnes" "I" ∈ lw_tbl := tk_2 (j := 73) rfl
set_option maxRecDepth 20000 in
theorem tw_188 : Cond.fieldLink RX3 68 "NotAtOnce$Frames" "found" "I" ∈ lw_tbl := tk_2 (j := 84) rfl
set_option maxRecDepth 20000 in
theorem tw_189 : Cond.fieldLink RX3 65 "NotAtOnce$Frames" "present" "I" ∈ lw_tbl := tk_2 (j := 83) rfl
set_option maxRecDepth 20000 in
theorem tw_190 : Cond.code yX3_colour cX3_colour 9 none ∈ lw_tbl := tk_5 (j := 80) rfl
set_option maxRecDepth 20000 in
theorem tw_191 : Cond.methodLink RX3 71 yX3_colour ∈ lw_tbl := tk_5 (j := 77) rfl
set_option maxRecDepth 20000 in
theorem tw_192 : Cond.instanceMethod yX3_colour ∈ lw_tbl := tk_5 (j := 79) rfl
set_option maxRecDepth 20000 in
theorem tw_193 : Cond.selects RX3 yX3_colour yX3_colour ∈ lw_tbl := ts_3 (List.mem_of_getElem? (i := 13) rfl)
set_option maxRecDepth 20000 in
theorem tw_194 : Cond.code yX3_mostMet cX3_mostMet 5 (some .int) ∈ lw_tbl := tk_5 (j := 84) rfl
set_option maxRecDepth 20000 in
theorem tw_195 : Cond.methodLink RX3 75 yX3_mostMet ∈ lw_tbl := tk_5 (j := 81) rfl
set_option maxRecDepth 20000 in
theorem tw_196 : Cond.instanceMethod yX3_mostMet ∈ lw_tbl := tk_5 (j := 83) rfl
set_option maxRecDepth 20000 in
theorem tw_197 : Cond.selects RX3 yX3_mostMet yX3_mostMet ∈ lw_tbl := ts_3 (List.mem_of_getElem? (i := 14) rfl)
set_option maxRecDepth 20000 in
theorem tw_198 : Cond.methodLink RX3 78 yJ6_bitCount_0f7a4 ∈ lw_tbl := tk_5 (j := 85) rfl
set_option maxRecDepth 20000 in
theorem tw_199 : Cond.methodLink RX3 87 Lib.Math.max.name ∈ lw_tbl := tk_5 (j := 89) rfl
set_option maxRecDepth 20000 in
theorem tw_200 : Cond.code yX10_bitAt cX10_bitAt 4 (some .int) ∈ lw_tbl := tk_5 (j := 88) rfl
set_option maxRecDepth 20000 in
theorem tw_201 : Cond.initialized RX10 ∈ lw_tbl := tk_1 (j := 1) rfl
set_option maxRecDepth 20000 in
theorem tw_202 : Cond.static yX10_bitAt ∈ lw_tbl := tk_5 (j := 87) rfl
set_option maxRecDepth 20000 in
theorem tw_203 : Cond.fieldLink RX9 31 "NotAtOnce$Draft" "runs" "I" ∈ lw_tbl := tk_1 (j := 62) rfl
set_option maxRecDepth 20000 in
theorem tw_204 : Cond.fieldLink RX9 37 "NotAtOnce$Telling" "runs" "I" ∈ lw_tbl := tk_2 (j := 117) rfl
set_option maxRecDepth 20000 in
theorem tw_205 : Cond.fieldLink RX9 45 "NotAtOnce$Draft" "runLength" "[I" ∈ lw_tbl := tk_1 (j := 84) rfl
set_option maxRecDepth 20000 in
theorem tw_206 : Cond.fieldLink RX9 9 "NotAtOnce$Telling" "stepLook" "[I" ∈ lw_tbl := tk_2 (j := 123) rfl
set_option maxRecDepth 20000 in
theorem tw_207 : Cond.fieldLink RX9 38 "NotAtOnce$Telling" "steps" "I" ∈ lw_tbl := tk_2 (j := 121) rfl
set_option maxRecDepth 20000 in
theorem tw_208 : Cond.fieldLink RX9 48 "NotAtOnce$Draft" "stepLook" "[I" ∈ lw_tbl := tk_1 (j := 87) rfl
set_option maxRecDepth 20000 in
theorem tw_209 : Cond.fieldLink RX9 15 "NotAtOnce$Telling" "stepTold" "[I" ∈ lw_tbl := tk_2 (j := 124) rfl
set_option maxRecDepth 20000 in
theorem tw_210 : Cond.fieldLink RX9 49 "NotAtOnce$Draft" "stepTold" "[I" ∈ lw_tbl := tk_1 (j := 90) rfl
set_option maxRecDepth 20000 in
theorem tw_211 : Cond.fieldLink RX9 18 "NotAtOnce$Telling" "stepEnds" "[Z" ∈ lw_tbl := tk_2 (j := 125) rfl
set_option maxRecDepth 20000 in
theorem tw_212 : Cond.fieldLink RX9 41 "NotAtOnce$Telling" "worked" "Z" ∈ lw_tbl := tk_2 (j := 122) rfl
set_option maxRecDepth 20000 in
theorem tw_213 : Cond.fieldLink RX9 22 "NotAtOnce$Telling" "answers" "[I" ∈ lw_tbl := tk_2 (j := 126) rfl
set_option maxRecDepth 20000 in
theorem tw_214 : Cond.fieldLink RX9 25 "NotAtOnce$Telling" "goesTo" "[I" ∈ lw_tbl := tk_2 (j := 127) rfl
set_option maxRecDepth 20000 in
theorem tw_215 : Cond.fieldLink RX9 50 "NotAtOnce$Telling" "states" "I" ∈ lw_tbl := tk_2 (j := 119) rfl
set_option maxRecDepth 20000 in
theorem tw_216 : Cond.code yX9_tell cX9_tell 11 (some .int) ∈ lw_tbl := tk_5 (j := 113) rfl
set_option maxRecDepth 20000 in
theorem tw_217 : Cond.methodLink RX9 53 yX9_tell ∈ lw_tbl := tk_5 (j := 110) rfl
set_option maxRecDepth 20000 in
theorem tw_218 : Cond.initialized RX9 ∈ lw_tbl := tk_1 (j := 10) rfl
set_option maxRecDepth 20000 in
theorem tw_219 : Cond.instanceMethod yX9_tell ∈ lw_tbl := tk_5 (j := 112) rfl
set_option maxRecDepth 20000 in
theorem tw_220 : Cond.selects RX9 yX9_tell yX9_tell ∈ lw_tbl := ts_3 (List.mem_of_getElem? (i := 15) rfl)
set_option maxRecDepth 20000 in
theorem tw_221 : Cond.fieldLink RX9 28 "NotAtOnce$Telling" "reasons" "[I" ∈ lw_tbl := tk_2 (j := 128) rfl
set_option maxRecDepth 20000 in
theorem tw_222 : Cond.methodLink RX9 60 Lib.Math.min.name ∈ lw_tbl := tk_5 (j := 118) rfl
set_option maxRecDepth 20000 in
theorem tw_223 : Cond.code yX9_tellOn cX9_tellOn 5 (some .int) ∈ lw_tbl := tk_5 (j := 117) rfl
set_option maxRecDepth 20000 in
theorem tw_224 : Cond.methodLink RX9 57 yX9_tellOn ∈ lw_tbl := tk_5 (j := 114) rfl
set_option maxRecDepth 20000 in
theorem tw_225 : Cond.instanceMethod yX9_tellOn ∈ lw_tbl := tk_5 (j := 116) rfl
set_option maxRecDepth 20000 in
theorem tw_226 : Cond.selects RX9 yX9_tellOn yX9_tellOn ∈ lw_tbl := ts_4 (List.mem_of_getElem? (i := 0) rfl)
set_option maxRecDepth 20000 in
theorem tw_227 : Cond.methodLink RX9 66 Lib.Math.max.name ∈ lw_tbl := tk_5 (j := 119) rfl
set_option maxRecDepth 20000 in
theorem tw_228 : Cond.fieldLink RX4 28 "NotAtOnce$History" "made" "I" ∈ lw_tbl := tk_2 (j := 158) rfl
set_option maxRecDepth 20000 in
theorem tw_229 : Cond.fieldLink RX4 32 "NotAtOnce$History" "known" "I" ∈ lw_tbl := tk_2 (j := 160) rfl
set_option maxRecDepth 20000 in
theorem tw_230 : Cond.fieldLink RX4 35 "NotAtOnce$History" "marks" "I" ∈ lw_tbl := tk_2 (j := 162) rfl
set_option maxRecDepth 20000 in
theorem tw_231 : Cond.fieldLink RX4 24 "NotAtOnce$History" "table" "LNotAtOnce$Table;" ∈ lw_tbl := tk_2 (j := 168) rfl
set_option maxRecDepth 20000 in
theorem tw_232 : Cond.fieldLink RX4 18 "NotAtOnce$History" "rows" "[[I" ∈ lw_tbl := tk_2 (j := 166) rfl
set_option maxRecDepth 20000 in
theorem tw_233 : Cond.fieldLink RX4 13 "NotAtOnce$History" "acts" "[[I" ∈ lw_tbl := tk_2 (j := 164) rfl
set_option maxRecDepth 20000 in
theorem tw_234 : Cond.code yX8_save cX8_save 2 none ∈ lw_tbl := tk_5 (j := 143) rfl
set_option maxRecDepth 20000 in
theorem tw_235 : Cond.methodLink RX4 41 yX8_save ∈ lw_tbl := tk_5 (j := 140) rfl
set_option maxRecDepth 20000 in
theorem tw_236 : Cond.instanceMethod yX8_save ∈ lw_tbl := tk_5 (j := 141) rfl
set_option maxRecDepth 20000 in
theorem tw_237 : Cond.selects RX8 yX8_save yX8_save ∈ lw_tbl := tk_5 (j := 142) rfl
set_option maxRecDepth 20000 in
theorem tw_238 : Cond.code yX4_leaveOldest cX4_leaveOldest 4 none ∈ lw_tbl := tk_5 (j := 139) rfl
set_option maxRecDepth 20000 in
theorem tw_239 : Cond.methodLink RX4 38 yX4_leaveOldest ∈ lw_tbl := tk_5 (j := 136) rfl
set_option maxRecDepth 20000 in
theorem tw_240 : Cond.initialized RX4 ∈ lw_tbl := tk_1 (j := 11) rfl
set_option maxRecDepth 20000 in
theorem tw_241 : Cond.instanceMethod yX4_leaveOldest ∈ lw_tbl := tk_5 (j := 138) rfl
set_option maxRecDepth 20000 in
theorem tw_242 : Cond.selects RX4 yX4_leaveOldest yX4_leaveOldest ∈ lw_tbl := ts_4 (List.mem_of_getElem? (i := 1) rfl)
set_option maxRecDepth 20000 in
theorem tw_243 : Cond.code yX8_restore cX8_restore 2 none ∈ lw_tbl := tk_5 (j := 201) rfl
set_option maxRecDepth 20000 in
theorem tw_244 : Cond.methodLink RX4 45 yX8_restore ∈ lw_tbl := tk_5 (j := 198) rfl
set_option maxRecDepth 20000 in
theorem tw_245 : Cond.instanceMethod yX8_restore ∈ lw_tbl := tk_5 (j := 199) rfl
set_option maxRecDepth 20000 in
theorem tw_246 : Cond.selects RX8 yX8_restore yX8_restore ∈ lw_tbl := tk_5 (j := 200) rfl
set_option maxRecDepth 20000 in
theorem tw_247 : Cond.fieldLink RX4 21 "NotAtOnce$History" "marked" "[[I" ∈ lw_tbl := tk_2 (j := 167) rfl
set_option maxRecDepth 20000 in
theorem tw_248 : Cond.fieldLink RX0 27 "NotAtOnce$Blend" "table" "LNotAtOnce$Table;" ∈ lw_tbl := tk_2 (j := 4) rfl
set_option maxRecDepth 20000 in
theorem tw_249 : Cond.fieldLink RX0 44 "NotAtOnce$Table" "count" "I" ∈ lw_tbl := tk_1 (j := 179) rfl
set_option maxRecDepth 20000 in
theorem tw_250 : Cond.fieldLink RX0 31 "NotAtOnce$Blend" "fraction" "LNotAtOnce$Fraction;" ∈ lw_tbl := tk_2 (j := 5) rfl
set_option maxRecDepth 20000 in
theorem tw_251 : Cond.fieldLink RX0 13 "NotAtOnce$Blend" "cells" "[[J" ∈ lw_tbl := tk_2 (j := 6) rfl
set_option maxRecDepth 20000 in
theorem tw_252 : Cond.fieldLink RX0 56 "NotAtOnce$Blend" "columns" "I" ∈ lw_tbl := tk_2 (j := 10) rfl
set_option maxRecDepth 20000 in
theorem tw_253 : Cond.fieldLink RX0 23 "NotAtOnce$Blend" "scale" "J" ∈ lw_tbl := tk_2 (j := 11) rfl
set_option maxRecDepth 20000 in
theorem tw_254 : Cond.fieldLink RX0 59 "NotAtOnce$Table" "law" "I" ∈ lw_tbl := tk_1 (j := 174) rfl
set_option maxRecDepth 20000 in
theorem tw_255 : Cond.code yX0_solve cX0_solve 2 none ∈ lw_tbl := tk_4 (j := 7) rfl
set_option maxRecDepth 20000 in
theorem tw_256 : Cond.methodLink RX0 53 yX0_solve ∈ lw_tbl := tk_4 (j := 4) rfl
set_option maxRecDepth 20000 in
theorem tw_257 : Cond.initialized RX0 ∈ lw_tbl := tk_1 (j := 7) rfl
set_option maxRecDepth 20000 in
theorem tw_258 : Cond.instanceMethod yX0_solve ∈ lw_tbl := tk_4 (j := 6) rfl
set_option maxRecDepth 20000 in
theorem tw_259 : Cond.selects RX0 yX0_solve yX0_solve ∈ lw_tbl := ts_2 (List.mem_of_getElem? (i := 13) rfl)
set_option maxRecDepth 20000 in
theorem tw_260 : Cond.code yX2_set cX2_set 7 none ∈ lw_tbl := tk_4 (j := 0) rfl
set_option maxRecDepth 20000 in
theorem tw_261 : Cond.methodLink RX0 47 yX2_set ∈ lw_tbl := tk_3 (j := 237) rfl
set_option maxRecDepth 20000 in
theorem tw_262 : Cond.instanceMethod yX2_set ∈ lw_tbl := tk_3 (j := 238) rfl
set_option maxRecDepth 20000 in
theorem tw_263 : Cond.selects RX2 yX2_set yX2_set ∈ lw_tbl := tk_3 (j := 239) rfl
set_option maxRecDepth 20000 in
theorem tw_264 : Cond.code yX0_aim cX0_aim 8 none ∈ lw_tbl := tk_4 (j := 81) rfl
set_option maxRecDepth 20000 in
theorem tw_265 : Cond.methodLink RX0 62 yX0_aim ∈ lw_tbl := tk_4 (j := 78) rfl
set_option maxRecDepth 20000 in
theorem tw_266 : Cond.instanceMethod yX0_aim ∈ lw_tbl := tk_4 (j := 80) rfl
set_option maxRecDepth 20000 in
theorem tw_267 : Cond.selects RX0 yX0_aim yX0_aim ∈ lw_tbl := ts_3 (List.mem_of_getElem? (i := 6) rfl)
set_option maxRecDepth 20000 in
theorem tw_268 : Cond.code yX0_climb cX0_climb 5 none ∈ lw_tbl := tk_4 (j := 33) rfl
set_option maxRecDepth 20000 in
theorem tw_269 : Cond.methodLink RX0 66 yX0_climb ∈ lw_tbl := tk_4 (j := 30) rfl
set_option maxRecDepth 20000 in
theorem tw_270 : Cond.instanceMethod yX0_climb ∈ lw_tbl := tk_4 (j := 32) rfl
set_option maxRecDepth 20000 in
theorem tw_271 : Cond.selects RX0 yX0_climb yX0_climb ∈ lw_tbl := ts_3 (List.mem_of_getElem? (i := 0) rfl)
set_option maxRecDepth 20000 in
theorem tw_272 : Cond.fieldLink RX0 41 "NotAtOnce$Blend" "solved" "I" ∈ lw_tbl := tk_2 (j := 12) rfl
set_option maxRecDepth 20000 in
theorem tw_273 : Cond.fieldLink RX0 35 "NotAtOnce$Table" "version" "I" ∈ lw_tbl := tk_1 (j := 183) rfl
set_option maxRecDepth 20000 in
theorem tw_274 : Cond.code yX0_nameColumns cX0_nameColumns 2 none ∈ lw_tbl := tk_4 (j := 11) rfl
set_option maxRecDepth 20000 in
theorem tw_275 : Cond.methodLink RX0 70 yX0_nameColumns ∈ lw_tbl := tk_4 (j := 8) rfl
set_option maxRecDepth 20000 in
theorem tw_276 : Cond.instanceMethod yX0_nameColumns ∈ lw_tbl := tk_4 (j := 10) rfl
set_option maxRecDepth 20000 in
theorem tw_277 : Cond.selects RX0 yX0_nameColumns yX0_nameColumns ∈ lw_tbl := ts_2 (List.mem_of_getElem? (i := 14) rfl)
set_option maxRecDepth 20000 in
theorem tw_278 : Cond.code yX0_fillRows cX0_fillRows 3 none ∈ lw_tbl := tk_4 (j := 27) rfl
set_option maxRecDepth 20000 in
theorem tw_279 : Cond.methodLink RX0 73 yX0_fillRows ∈ lw_tbl := tk_4 (j := 24) rfl
set_option maxRecDepth 20000 in
theorem tw_280 : Cond.instanceMethod yX0_fillRows ∈ lw_tbl := tk_4 (j := 26) rfl
set_option maxRecDepth 20000 in
theorem tw_281 : Cond.selects RX0 yX0_fillRows yX0_fillRows ∈ lw_tbl := ts_2 (List.mem_of_getElem? (i := 15) rfl)
set_option maxRecDepth 20000 in
theorem tw_282 : Cond.constantLong RX0 76 (-1) ∈ lw_tbl := tk_4 (j := 29) rfl
set_option maxRecDepth 20000 in
theorem tw_283 : Cond.fieldLink RX0 20 "NotAtOnce$Blend" "columnNames" "[I" ∈ lw_tbl := tk_2 (j := 8) rfl
set_option maxRecDepth 20000 in
theorem tw_284 : Cond.methodLink RX0 78 yX8_hiddenAnswers ∈ lw_tbl := tk_4 (j := 12) rfl
set_option maxRecDepth 20000 in
theorem tw_285 : Cond.methodLink RX0 82 yX8_missed ∈ lw_tbl := tk_4 (j := 16) rfl
set_option maxRecDepth 20000 in
theorem tw_286 : Cond.fieldLink RX0 89 "NotAtOnce$Table" "times" "[I" ∈ lw_tbl := tk_1 (j := 192) rfl
set_option maxRecDepth 20000 in
theorem tw_287 : Cond.fieldLink RX0 86 "NotAtOnce$Blend" "rows" "I" ∈ lw_tbl := tk_2 (j := 9) rfl
set_option maxRecDepth 20000 in
theorem tw_288 : Cond.fieldLink RX0 16 "NotAtOnce$Blend" "rowNames" "[I" ∈ lw_tbl := tk_2 (j := 7) rfl
set_option maxRecDepth 20000 in
theorem tw_289 : Cond.methodLink RX0 92 yX8_cellOf ∈ lw_tbl := tk_4 (j := 28) rfl
set_option maxRecDepth 20000 in
theorem tw_290 : Cond.code yX0_isMeant cX0_isMeant 3 (some .boolean) ∈ lw_tbl := tk_4 (j := 84) rfl
set_option maxRecDepth 20000 in
theorem tw_291 : Cond.methodLink RX0 96 yX0_isMeant ∈ lw_tbl := tk_4 (j := 82) rfl
set_option maxRecDepth 20000 in
theorem tw_292 : Cond.static yX0_isMeant ∈ lw_tbl := tk_4 (j := 83) rfl
set_option maxRecDepth 20000 in
theorem tw_293 : Cond.constant RX0 100 (1000000) ∈ lw_tbl := tk_4 (j := 34) rfl
set_option maxRecDepth 20000 in
theorem tw_294 : Cond.code yX0_entering cX0_entering 5 (some .int) ∈ lw_tbl := tk_4 (j := 38) rfl
set_option maxRecDepth 20000 in
theorem tw_295 : Cond.methodLink RX0 101 yX0_entering ∈ lw_tbl := tk_4 (j := 35) rfl
set_option maxRecDepth 20000 in
theorem tw_296 : Cond.instanceMethod yX0_entering ∈ lw_tbl := tk_4 (j := 37) rfl
set_option maxRecDepth 20000 in
theorem tw_297 : Cond.selects RX0 yX0_entering yX0_entering ∈ lw_tbl := ts_3 (List.mem_of_getElem? (i := 1) rfl)
set_option maxRecDepth 20000 in
theorem tw_298 : Cond.code yX0_leaving cX0_leaving 4 (some .int) ∈ lw_tbl := tk_4 (j := 42) rfl
set_option maxRecDepth 20000 in
theorem tw_299 : Cond.methodLink RX0 104 yX0_leaving ∈ lw_tbl := tk_4 (j := 39) rfl
set_option maxRecDepth 20000 in
theorem tw_300 : Cond.instanceMethod yX0_leaving ∈ lw_tbl := tk_4 (j := 41) rfl
set_option maxRecDepth 20000 in
theorem tw_301 : Cond.selects RX0 yX0_leaving yX0_leaving ∈ lw_tbl := ts_3 (List.mem_of_getElem? (i := 2) rfl)
set_option maxRecDepth 20000 in
theorem tw_302 : Cond.code yX0_pivot cX0_pivot 7 none ∈ lw_tbl := tk_4 (j := 50) rfl
set_option maxRecDepth 20000 in
theorem tw_303 : Cond.methodLink RX0 107 yX0_pivot ∈ lw_tbl := tk_4 (j := 47) rfl
set_option maxRecDepth 20000 in
theorem tw_304 : Cond.instanceMethod yX0_pivot ∈ lw_tbl := tk_4 (j := 49) rfl
set_option maxRecDepth 20000 in
theorem tw_305 : Cond.selects RX0 yX0_pivot yX0_pivot ∈ lw_tbl := ts_3 (List.mem_of_getElem? (i := 4) rfl)
set_option maxRecDepth 20000 in
theorem tw_306 : Cond.code yX0_comesFirst cX0_comesFirst 8 (some .boolean) ∈ lw_tbl := tk_4 (j := 46) rfl
set_option maxRecDepth 20000 in
theorem tw_307 : Cond.methodLink RX0 110 yX0_comesFirst ∈ lw_tbl := tk_4 (j := 43) rfl
set_option maxRecDepth 20000 in
theorem tw_308 : Cond.instanceMethod yX0_comesFirst ∈ lw_tbl := tk_4 (j := 45) rfl
set_option maxRecDepth 20000 in
theorem tw_309 : Cond.selects RX0 yX0_comesFirst yX0_comesFirst ∈ lw_tbl := ts_3 (List.mem_of_getElem? (i := 3) rfl)
set_option maxRecDepth 20000 in
theorem tw_310 : Cond.code yX0_clearFrom cX0_clearFrom 11 none ∈ lw_tbl := tk_4 (j := 54) rfl
set_option maxRecDepth 20000 in
theorem tw_311 : Cond.methodLink RX0 113 yX0_clearFrom ∈ lw_tbl := tk_4 (j := 51) rfl
set_option maxRecDepth 20000 in
theorem tw_312 : Cond.instanceMethod yX0_clearFrom ∈ lw_tbl := tk_4 (j := 53) rfl
set_option maxRecDepth 20000 in
theorem tw_313 : Cond.selects RX0 yX0_clearFrom yX0_clearFrom ∈ lw_tbl := ts_3 (List.mem_of_getElem? (i := 5) rfl)
set_option maxRecDepth 20000 in
theorem tw_314 : Cond.fieldLink RX6 12 "NotAtOnce$Reader" "draft" "LNotAtOnce$Draft;" ∈ lw_tbl := tk_1 (j := 126) rfl
set_option maxRecDepth 20000 in
theorem tw_315 : Cond.fieldLink RX6 25 "NotAtOnce$Reader" "bytes" "[I" ∈ lw_tbl := tk_1 (j := 132) rfl
set_option maxRecDepth 20000 in
theorem tw_316 : Cond.fieldLink RX6 45 "NotAtOnce$Reader" "end" "I" ∈ lw_tbl := tk_1 (j := 135) rfl
set_option maxRecDepth 20000 in
theorem tw_317 : Cond.code yX1_clear cX1_clear 2 none ∈ lw_tbl := tk_3 (j := 10) rfl
set_option maxRecDepth 20000 in
theorem tw_318 : Cond.methodLink RX6 29 yX1_clear ∈ lw_tbl := tk_3 (j := 7) rfl
set_option maxRecDepth 20000 in
theorem tw_319 : Cond.initialized RX1 ∈ lw_tbl := tk_1 (j := 3) rfl
set_option maxRecDepth 20000 in
theorem tw_320 : Cond.instanceMethod yX1_clear ∈ lw_tbl := tk_3 (j := 8) rfl
set_option maxRecDepth 20000 in
theorem tw_321 : Cond.selects RX1 yX1_clear yX1_clear ∈ lw_tbl := tk_3 (j := 9) rfl
set_option maxRecDepth 20000 in
theorem tw_322 : Cond.fieldLink RX6 32 "NotAtOnce$Reader" "fault" "I" ∈ lw_tbl := tk_1 (j := 128) rfl
set_option maxRecDepth 20000 in
theorem tw_323 : Cond.fieldLink RX6 36 "NotAtOnce$Reader" "place" "I" ∈ lw_tbl := tk_1 (j := 130) rfl
set_option maxRecDepth 20000 in
theorem tw_324 : Cond.methodLink RX6 39 Lib.Math.min.name ∈ lw_tbl := tk_3 (j := 11) rfl
set_option maxRecDepth 20000 in
theorem tw_325 : Cond.fieldLink RX6 48 "NotAtOnce$Reader" "at" "I" ∈ lw_tbl := tk_1 (j := 136) rfl
set_option maxRecDepth 20000 in
theorem tw_326 : Cond.code yX6_next cX6_next 1 none ∈ lw_tbl := tk_3 (j := 17) rfl
set_option maxRecDepth 20000 in
theorem tw_327 : Cond.methodLink RX6 51 yX6_next ∈ lw_tbl := tk_3 (j := 14) rfl
set_option maxRecDepth 20000 in
theorem tw_328 : Cond.initialized RX6 ∈ lw_tbl := tk_1 (j := 2) rfl
set_option maxRecDepth 20000 in
theorem tw_329 : Cond.instanceMethod yX6_next ∈ lw_tbl := tk_3 (j := 16) rfl
set_option maxRecDepth 20000 in
theorem tw_330 : Cond.selects RX6 yX6_next yX6_next ∈ lw_tbl := ts_1 (List.mem_of_getElem? (i := 2) rfl)
set_option maxRecDepth 20000 in
theorem tw_331 : Cond.code yX6_readLine cX6_readLine 1 (some .boolean) ∈ lw_tbl := tk_3 (j := 31) rfl
set_option maxRecDepth 20000 in
theorem tw_332 : Cond.methodLink RX6 54 yX6_readLine ∈ lw_tbl := tk_3 (j := 28) rfl
set_option maxRecDepth 20000 in
theorem tw_333 : Cond.instanceMethod yX6_readLine ∈ lw_tbl := tk_3 (j := 30) rfl
set_option maxRecDepth 20000 in
theorem tw_334 : Cond.selects RX6 yX6_readLine yX6_readLine ∈ lw_tbl := ts_1 (List.mem_of_getElem? (i := 4) rfl)
set_option maxRecDepth 20000 in
theorem tw_335 : Cond.code yX6_goesOn cX6_goesOn 1 (some .boolean) ∈ lw_tbl := tk_3 (j := 159) rfl
set_option maxRecDepth 20000 in
theorem tw_336 : Cond.methodLink RX6 58 yX6_goesOn ∈ lw_tbl := tk_3 (j := 156) rfl
set_option maxRecDepth 20000 in
theorem tw_337 : Cond.instanceMethod yX6_goesOn ∈ lw_tbl := tk_3 (j := 158) rfl
set_option maxRecDepth 20000 in
theorem tw_338 : Cond.selects RX6 yX6_goesOn yX6_goesOn ∈ lw_tbl := ts_2 (List.mem_of_getElem? (i := 5) rfl)
set_option maxRecDepth 20000 in
theorem tw_339 : Cond.fieldLink RX6 61 "NotAtOnce$Reader" "kind" "I" ∈ lw_tbl := tk_1 (j := 137) rfl
set_option maxRecDepth 20000 in
theorem tw_340 : Cond.fieldLink RX6 64 "NotAtOnce$Draft" "law" "I" ∈ lw_tbl := tk_1 (j := 46) rfl
set_option maxRecDepth 20000 in
theorem tw_341 : Cond.fieldLink RX6 67 "NotAtOnce$Draft" "looks" "I" ∈ lw_tbl := tk_1 (j := 49) rfl
set_option maxRecDepth 20000 in
theorem tw_342 : Cond.code yX6_pass cX6_pass 2 (some .boolean) ∈ lw_tbl := tk_3 (j := 140) rfl
set_option maxRecDepth 20000 in
theorem tw_343 : Cond.methodLink RX6 74 yX6_pass ∈ lw_tbl := tk_3 (j := 137) rfl
set_option maxRecDepth 20000 in
theorem tw_344 : Cond.instanceMethod yX6_pass ∈ lw_tbl := tk_3 (j := 139) rfl
set_option maxRecDepth 20000 in
theorem tw_345 : Cond.selects RX6 yX6_pass yX6_pass ∈ lw_tbl := ts_2 (List.mem_of_getElem? (i := 1) rfl)
set_option maxRecDepth 20000 in
theorem tw_346 : Cond.code yX6_refuse cX6_refuse 2 (some .boolean) ∈ lw_tbl := tk_3 (j := 92) rfl
set_option maxRecDepth 20000 in
theorem tw_347 : Cond.methodLink RX6 70 yX6_refuse ∈ lw_tbl := tk_3 (j := 89) rfl
set_option maxRecDepth 20000 in
theorem tw_348 : Cond.instanceMethod yX6_refuse ∈ lw_tbl := tk_3 (j := 91) rfl
set_option maxRecDepth 20000 in
theorem tw_349 : Cond.selects RX6 yX6_refuse yX6_refuse ∈ lw_tbl := ts_1 (List.mem_of_getElem? (i := 7) rfl)
set_option maxRecDepth 20000 in
theorem tw_350 : Cond.fieldLink RX6 18 "NotAtOnce$Reader" "lookNames" "[J" ∈ lw_tbl := tk_1 (j := 133) rfl
set_option maxRecDepth 20000 in
theorem tw_351 : Cond.fieldLink RX6 22 "NotAtOnce$Reader" "pointNames" "[J" ∈ lw_tbl := tk_1 (j := 134) rfl
set_option maxRecDepth 20000 in
theorem tw_352 : Cond.code yX6_says cX6_says 3 (some .boolean) ∈ lw_tbl := tk_3 (j := 36) rfl
set_option maxRecDepth 20000 in
theorem tw_353 : Cond.methodLink RX6 78 yX6_says ∈ lw_tbl := tk_3 (j := 33) rfl
set_option maxRecDepth 20000 in
theorem tw_354 : Cond.instanceMethod yX6_says ∈ lw_tbl := tk_3 (j := 35) rfl
set_option maxRecDepth 20000 in
theorem tw_355 : Cond.selects RX6 yX6_says yX6_says ∈ lw_tbl := ts_1 (List.mem_of_getElem? (i := 5) rfl)
set_option maxRecDepth 20000 in
theorem tw_356 : Cond.code yX6_readRun cX6_readRun 3 (some .boolean) ∈ lw_tbl := tk_3 (j := 155) rfl
set_option maxRecDepth 20000 in
theorem tw_357 : Cond.methodLink RX6 110 yX6_readRun ∈ lw_tbl := tk_3 (j := 152) rfl
set_option maxRecDepth 20000 in
theorem tw_358 : Cond.instanceMethod yX6_readRun ∈ lw_tbl := tk_3 (j := 154) rfl
set_option maxRecDepth 20000 in
theorem tw_359 : Cond.selects RX6 yX6_readRun yX6_readRun ∈ lw_tbl := ts_2 (List.mem_of_getElem? (i := 4) rfl)
set_option maxRecDepth 20000 in
theorem tw_360 : Cond.code yX6_readRay cX6_readRay 4 (some .boolean) ∈ lw_tbl := tk_3 (j := 151) rfl
set_option maxRecDepth 20000 in
theorem tw_361 : Cond.methodLink RX6 105 yX6_readRay ∈ lw_tbl := tk_3 (j := 148) rfl
set_option maxRecDepth 20000 in
theorem tw_362 : Cond.instanceMethod yX6_readRay ∈ lw_tbl := tk_3 (j := 150) rfl
set_option maxRecDepth 20000 in
theorem tw_363 : Cond.selects RX6 yX6_readRay yX6_readRay ∈ lw_tbl := ts_2 (List.mem_of_getElem? (i := 3) rfl)
set_option maxRecDepth 20000 in
theorem tw_364 : Cond.code yX6_readParity cX6_readParity 4 (some .boolean) ∈ lw_tbl := tk_3 (j := 144) rfl
set_option maxRecDepth 20000 in
theorem tw_365 : Cond.methodLink RX6 100 yX6_readParity ∈ lw_tbl := tk_3 (j := 141) rfl
set_option maxRecDepth 20000 in
theorem tw_366 : Cond.instanceMethod yX6_readParity ∈ lw_tbl := tk_3 (j := 143) rfl
set_option maxRecDepth 20000 in
theorem tw_367 : Cond.selects RX6 yX6_readParity yX6_readParity ∈ lw_tbl := ts_2 (List.mem_of_getElem? (i := 2) rfl)
set_option maxRecDepth 20000 in
theorem tw_368 : Cond.code yX6_readSet cX6_readSet 3 (some .boolean) ∈ lw_tbl := tk_3 (j := 127) rfl
set_option maxRecDepth 20000 in
theorem tw_369 : Cond.methodLink RX6 95 yX6_readSet ∈ lw_tbl := tk_3 (j := 124) rfl
set_option maxRecDepth 20000 in
theorem tw_370 : Cond.instanceMethod yX6_readSet ∈ lw_tbl := tk_3 (j := 126) rfl
set_option maxRecDepth 20000 in
theorem tw_371 : Cond.selects RX6 yX6_readSet yX6_readSet ∈ lw_tbl := ts_1 (List.mem_of_getElem? (i := 14) rfl)
set_option maxRecDepth 20000 in
theorem tw_372 : Cond.code yX6_readNames cX6_readNames 5 (some .boolean) ∈ lw_tbl := tk_3 (j := 106) rfl
set_option maxRecDepth 20000 in
theorem tw_373 : Cond.methodLink RX6 87 yX6_readNames ∈ lw_tbl := tk_3 (j := 103) rfl
set_option maxRecDepth 20000 in
theorem tw_374 : Cond.instanceMethod yX6_readNames ∈ lw_tbl := tk_3 (j := 105) rfl
set_option maxRecDepth 20000 in
theorem tw_375 : Cond.selects RX6 yX6_readNames yX6_readNames ∈ lw_tbl := ts_1 (List.mem_of_getElem? (i := 10) rfl)
set_option maxRecDepth 20000 in
theorem tw_376 : Cond.code yX6_readLaw cX6_readLaw 1 (some .boolean) ∈ lw_tbl := tk_3 (j := 88) rfl
set_option maxRecDepth 20000 in
theorem tw_377 : Cond.methodLink RX6 82 yX6_readLaw ∈ lw_tbl := tk_3 (j := 85) rfl
set_option maxRecDepth 20000 in
theorem tw_378 : Cond.instanceMethod yX6_readLaw ∈ lw_tbl := tk_3 (j := 87) rfl
set_option maxRecDepth 20000 in
theorem tw_379 : Cond.selects RX6 yX6_readLaw yX6_readLaw ∈ lw_tbl := ts_1 (List.mem_of_getElem? (i := 6) rfl)
set_option maxRecDepth 20000 in
theorem tw_380 : Cond.fieldLink RX6 122 "NotAtOnce$Reader" "value" "I" ∈ lw_tbl := tk_1 (j := 140) rfl
set_option maxRecDepth 20000 in
theorem tw_381 : Cond.code yX6_passWord cX6_passWord 2 (some .boolean) ∈ lw_tbl := tk_3 (j := 97) rfl
set_option maxRecDepth 20000 in
theorem tw_382 : Cond.methodLink RX6 115 yX6_passWord ∈ lw_tbl := tk_3 (j := 94) rfl
set_option maxRecDepth 20000 in
theorem tw_383 : Cond.instanceMethod yX6_passWord ∈ lw_tbl := tk_3 (j := 96) rfl
set_option maxRecDepth 20000 in
theorem tw_384 : Cond.selects RX6 yX6_passWord yX6_passWord ∈ lw_tbl := ts_1 (List.mem_of_getElem? (i := 8) rfl)
set_option maxRecDepth 20000 in
theorem tw_385 : Cond.code yX6_needWhole cX6_needWhole 3 (some .boolean) ∈ lw_tbl := tk_3 (j := 101) rfl
set_option maxRecDepth 20000 in
theorem tw_386 : Cond.methodLink RX6 118 yX6_needWhole ∈ lw_tbl := tk_3 (j := 98) rfl
set_option maxRecDepth 20000 in
theorem tw_387 : Cond.instanceMethod yX6_needWhole ∈ lw_tbl := tk_3 (j := 100) rfl
set_option maxRecDepth 20000 in
theorem tw_388 : Cond.selects RX6 yX6_needWhole yX6_needWhole ∈ lw_tbl := ts_1 (List.mem_of_getElem? (i := 9) rfl)
set_option maxRecDepth 20000 in
theorem tw_389 : Cond.fieldLink RX6 131 "NotAtOnce$Reader" "word" "J" ∈ lw_tbl := tk_1 (j := 139) rfl
set_option maxRecDepth 20000 in
theorem tw_390 : Cond.fieldLink RX6 128 "NotAtOnce$Draft" "points" "I" ∈ lw_tbl := tk_1 (j := 52) rfl
set_option maxRecDepth 20000 in
theorem tw_391 : Cond.code yX6_needNewName cX6_needNewName 2 (some .boolean) ∈ lw_tbl := tk_3 (j := 110) rfl
set_option maxRecDepth 20000 in
theorem tw_392 : Cond.methodLink RX6 125 yX6_needNewName ∈ lw_tbl := tk_3 (j := 107) rfl
set_option maxRecDepth 20000 in
theorem tw_393 : Cond.instanceMethod yX6_needNewName ∈ lw_tbl := tk_3 (j := 109) rfl
set_option maxRecDepth 20000 in
theorem tw_394 : Cond.selects RX6 yX6_needNewName yX6_needNewName ∈ lw_tbl := ts_1 (List.mem_of_getElem? (i := 11) rfl)
set_option maxRecDepth 20000 in
theorem tw_395 : Cond.fieldLink RX6 135 "NotAtOnce$Draft" "sets" "I" ∈ lw_tbl := tk_1 (j := 55) rfl
set_option maxRecDepth 20000 in
theorem tw_396 : Cond.fieldLink RX6 142 "NotAtOnce$Draft" "first" "[I" ∈ lw_tbl := tk_1 (j := 67) rfl
set_option maxRecDepth 20000 in
theorem tw_397 : Cond.fieldLink RX6 145 "NotAtOnce$Draft" "second" "[I" ∈ lw_tbl := tk_1 (j := 70) rfl
set_option maxRecDepth 20000 in
theorem tw_398 : Cond.code yX6_nameAmong cX6_nameAmong 4 (some .int) ∈ lw_tbl := tk_3 (j := 131) rfl
set_option maxRecDepth 20000 in
theorem tw_399 : Cond.methodLink RX6 138 yX6_nameAmong ∈ lw_tbl := tk_3 (j := 128) rfl
set_option maxRecDepth 20000 in
theorem tw_400 : Cond.instanceMethod yX6_nameAmong ∈ lw_tbl := tk_3 (j := 130) rfl
set_option maxRecDepth 20000 in
theorem tw_401 : Cond.selects RX6 yX6_nameAmong yX6_nameAmong ∈ lw_tbl := ts_1 (List.mem_of_getElem? (i := 15) rfl)
set_option maxRecDepth 20000 in
theorem tw_402 : Cond.code yX6_readTimes cX6_readTimes 4 (some .boolean) ∈ lw_tbl := tk_3 (j := 136) rfl
set_option maxRecDepth 20000 in
theorem tw_403 : Cond.methodLink RX6 150 yX6_readTimes ∈ lw_tbl := tk_3 (j := 133) rfl
set_option maxRecDepth 20000 in
theorem tw_404 : Cond.instanceMethod yX6_readTimes ∈ lw_tbl := tk_3 (j := 135) rfl
set_option maxRecDepth 20000 in
theorem tw_405 : Cond.selects RX6 yX6_readTimes yX6_readTimes ∈ lw_tbl := ts_2 (List.mem_of_getElem? (i := 0) rfl)
set_option maxRecDepth 20000 in
theorem tw_406 : Cond.fieldLink RX6 153 "NotAtOnce$Draft" "times" "[I" ∈ lw_tbl := tk_1 (j := 73) rfl
set_option maxRecDepth 20000 in
theorem tw_407 : Cond.fieldLink RX6 156 "NotAtOnce$Draft" "lines" "I" ∈ lw_tbl := tk_1 (j := 58) rfl
set_option maxRecDepth 20000 in
theorem tw_408 : Cond.fieldLink RX6 165 "NotAtOnce$Draft" "lineBits" "[I" ∈ lw_tbl := tk_1 (j := 76) rfl
set_option maxRecDepth 20000 in
theorem tw_409 : Cond.fieldLink RX6 168 "NotAtOnce$Draft" "lineSum" "[I" ∈ lw_tbl := tk_1 (j := 79) rfl
set_option maxRecDepth 20000 in
theorem tw_410 : Cond.fieldLink RX6 171 "NotAtOnce$Draft" "rays" "I" ∈ lw_tbl := tk_1 (j := 61) rfl
set_option maxRecDepth 20000 in
theorem tw_411 : Cond.fieldLink RX6 174 "NotAtOnce$Draft" "rayParts" "[I" ∈ lw_tbl := tk_1 (j := 82) rfl
set_option maxRecDepth 20000 in
theorem tw_412 : Cond.fieldLink RX6 177 "NotAtOnce$Draft" "runs" "I" ∈ lw_tbl := tk_1 (j := 64) rfl
set_option maxRecDepth 20000 in
theorem tw_413 : Cond.fieldLink RX6 180 "NotAtOnce$Draft" "stepLook" "[I" ∈ lw_tbl := tk_1 (j := 88) rfl
set_option maxRecDepth 20000 in
theorem tw_414 : Cond.fieldLink RX6 183 "NotAtOnce$Draft" "stepTold" "[I" ∈ lw_tbl := tk_1 (j := 91) rfl
set_option maxRecDepth 20000 in
theorem tw_415 : Cond.fieldLink RX6 186 "NotAtOnce$Draft" "runLength" "[I" ∈ lw_tbl := tk_1 (j := 85) rfl
set_option maxRecDepth 20000 in
theorem tw_416 : Cond.fieldLink RX6 189 "NotAtOnce$Reader" "start" "I" ∈ lw_tbl := tk_1 (j := 138) rfl
set_option maxRecDepth 20000 in
theorem tw_417 : Cond.code yX6_isName cX6_isName 1 (some .boolean) ∈ lw_tbl := tk_3 (j := 114) rfl
set_option maxRecDepth 20000 in
theorem tw_418 : Cond.methodLink RX6 192 yX6_isName ∈ lw_tbl := tk_3 (j := 111) rfl
set_option maxRecDepth 20000 in
theorem tw_419 : Cond.instanceMethod yX6_isName ∈ lw_tbl := tk_3 (j := 113) rfl
set_option maxRecDepth 20000 in
theorem tw_420 : Cond.selects RX6 yX6_isName yX6_isName ∈ lw_tbl := ts_1 (List.mem_of_getElem? (i := 12) rfl)
set_option maxRecDepth 20000 in
theorem tw_421 : Cond.code yX6_indexOf cX6_indexOf 4 (some .int) ∈ lw_tbl := tk_3 (j := 123) rfl
set_option maxRecDepth 20000 in
theorem tw_422 : Cond.methodLink RX6 195 yX6_indexOf ∈ lw_tbl := tk_3 (j := 120) rfl
set_option maxRecDepth 20000 in
theorem tw_423 : Cond.instanceMethod yX6_indexOf ∈ lw_tbl := tk_3 (j := 122) rfl
set_option maxRecDepth 20000 in
theorem tw_424 : Cond.selects RX6 yX6_indexOf yX6_indexOf ∈ lw_tbl := ts_1 (List.mem_of_getElem? (i := 13) rfl)
set_option maxRecDepth 20000 in
theorem tw_425 : Cond.code yJ0_length_8abf5 cJ0_length_8abf5 1 (some .int) ∈ lw_tbl := tk_3 (j := 40) rfl
set_option maxRecDepth 20000 in
theorem tw_426 : Cond.methodLink RX6 198 yJ0_length_8abf5 ∈ lw_tbl := tk_3 (j := 37) rfl
set_option maxRecDepth 20000 in
theorem tw_427 : Cond.instanceMethod yJ0_length_8abf5 ∈ lw_tbl := tk_3 (j := 38) rfl
set_option maxRecDepth 20000 in
theorem tw_428 : Cond.selects RJ0 yJ0_length_8abf5 yJ0_length_8abf5 ∈ lw_tbl := tk_3 (j := 39) rfl
set_option maxRecDepth 20000 in
theorem tw_429 : Cond.code yJ0_charAt_5068e cJ0_charAt_5068e 2 (some .char) ∈ lw_tbl := tk_3 (j := 50) rfl
set_option maxRecDepth 20000 in
theorem tw_430 : Cond.methodLink RX6 204 yJ0_charAt_5068e ∈ lw_tbl := tk_3 (j := 47) rfl
set_option maxRecDepth 20000 in
theorem tw_431 : Cond.instanceMethod yJ0_charAt_5068e ∈ lw_tbl := tk_3 (j := 48) rfl
set_option maxRecDepth 20000 in
theorem tw_432 : Cond.selects RJ0 yJ0_charAt_5068e yJ0_charAt_5068e ∈ lw_tbl := tk_3 (j := 49) rfl
set_option maxRecDepth 20000 in
theorem tw_433 : Cond.code yX6_isLetter cX6_isLetter 1 (some .boolean) ∈ lw_tbl := tk_3 (j := 20) rfl
set_option maxRecDepth 20000 in
theorem tw_434 : Cond.methodLink RX6 208 yX6_isLetter ∈ lw_tbl := tk_3 (j := 18) rfl
set_option maxRecDepth 20000 in
theorem tw_435 : Cond.static yX6_isLetter ∈ lw_tbl := tk_3 (j := 19) rfl
set_option maxRecDepth 20000 in
theorem tw_436 : Cond.code yX6_takeSign cX6_takeSign 2 none ∈ lw_tbl := tk_3 (j := 27) rfl
set_option maxRecDepth 20000 in
theorem tw_437 : Cond.methodLink RX6 214 yX6_takeSign ∈ lw_tbl := tk_3 (j := 24) rfl
set_option maxRecDepth 20000 in
theorem tw_438 : Cond.instanceMethod yX6_takeSign ∈ lw_tbl := tk_3 (j := 26) rfl
set_option maxRecDepth 20000 in
theorem tw_439 : Cond.selects RX6 yX6_takeSign yX6_takeSign ∈ lw_tbl := ts_1 (List.mem_of_getElem? (i := 3) rfl)
set_option maxRecDepth 20000 in
theorem tw_440 : Cond.code yX6_isDigit cX6_isDigit 1 (some .boolean) ∈ lw_tbl := tk_3 (j := 23) rfl
set_option maxRecDepth 20000 in
theorem tw_441 : Cond.methodLink RX6 211 yX6_isDigit ∈ lw_tbl := tk_3 (j := 21) rfl
set_option maxRecDepth 20000 in
theorem tw_442 : Cond.static yX6_isDigit ∈ lw_tbl := tk_3 (j := 22) rfl
set_option maxRecDepth 20000 in
theorem tw_443 : Cond.fieldLink RX10 82 "NotAtOnce" "fed" "I" ∈ lw_tbl := tk_2 (j := 194) rfl
set_option maxRecDepth 20000 in
theorem tw_444 : Cond.code yX10_put cX10_put 3 none ∈ lw_tbl := tk_2 (j := 234) rfl
set_option maxRecDepth 20000 in
theorem tw_445 : Cond.methodLink RX10 86 yX10_put ∈ lw_tbl := tk_2 (j := 231) rfl
set_option maxRecDepth 20000 in
theorem tw_446 : Cond.instanceMethod yX10_put ∈ lw_tbl := tk_2 (j := 233) rfl
set_option maxRecDepth 20000 in
theorem tw_447 : Cond.selects RX10 yX10_put yX10_put ∈ lw_tbl := ts_1 (List.mem_of_getElem? (i := 0) rfl)
set_option maxRecDepth 20000 in
theorem tw_448 : Cond.fieldLink RX10 18 "NotAtOnce" "reader" "LNotAtOnce$Reader;" ∈ lw_tbl := tk_2 (j := 185) rfl
set_option maxRecDepth 20000 in
theorem tw_449 : Cond.fieldLink RX10 97 "NotAtOnce$Reader" "fault" "I" ∈ lw_tbl := tk_1 (j := 129) rfl
set_option maxRecDepth 20000 in
theorem tw_450 : Cond.fieldLink RX10 100 "NotAtOnce" "lastFault" "I" ∈ lw_tbl := tk_2 (j := 196) rfl
set_option maxRecDepth 20000 in
theorem tw_451 : Cond.fieldLink RX10 103 "NotAtOnce$Reader" "place" "I" ∈ lw_tbl := tk_1 (j := 131) rfl
set_option maxRecDepth 20000 in
theorem tw_452 : Cond.fieldLink RX10 25 "NotAtOnce" "table" "LNotAtOnce$Table;" ∈ lw_tbl := tk_2 (j := 186) rfl
set_option maxRecDepth 20000 in
theorem tw_453 : Cond.fieldLink RX10 109 "NotAtOnce$Reader" "draft" "LNotAtOnce$Draft;" ∈ lw_tbl := tk_1 (j := 127) rfl
set_option maxRecDepth 20000 in
theorem tw_454 : Cond.fieldLink RX10 57 "NotAtOnce" "parities" "LNotAtOnce$Parities;" ∈ lw_tbl := tk_2 (j := 189) rfl
set_option maxRecDepth 20000 in
theorem tw_455 : Cond.fieldLink RX10 64 "NotAtOnce" "frames" "LNotAtOnce$Frames;" ∈ lw_tbl := tk_2 (j := 190) rfl
set_option maxRecDepth 20000 in
theorem tw_456 : Cond.fieldLink RX10 71 "NotAtOnce" "telling" "LNotAtOnce$Telling;" ∈ lw_tbl := tk_2 (j := 191) rfl
set_option maxRecDepth 20000 in
theorem tw_457 : Cond.fieldLink RX10 78 "NotAtOnce" "history" "LNotAtOnce$History;" ∈ lw_tbl := tk_2 (j := 192) rfl
set_option maxRecDepth 20000 in
theorem tw_458 : Cond.fieldLink RX10 122 "NotAtOnce$Table" "looks" "I" ∈ lw_tbl := tk_1 (j := 178) rfl
set_option maxRecDepth 20000 in
theorem tw_459 : Cond.code yX10_refused cX10_refused 2 (some .int) ∈ lw_tbl := tk_3 (j := 2) rfl
set_option maxRecDepth 20000 in
theorem tw_460 : Cond.methodLink RX10 90 yX10_refused ∈ lw_tbl := tk_2 (j := 239) rfl
set_option maxRecDepth 20000 in
theorem tw_461 : Cond.instanceMethod yX10_refused ∈ lw_tbl := tk_3 (j := 1) rfl
set_option maxRecDepth 20000 in
theorem tw_462 : Cond.selects RX10 yX10_refused yX10_refused ∈ lw_tbl := ts_1 (List.mem_of_getElem? (i := 1) rfl)
set_option maxRecDepth 20000 in
theorem tw_463 : Cond.code yX6_read cX6_read 4 none ∈ lw_tbl := tk_3 (j := 6) rfl
set_option maxRecDepth 20000 in
theorem tw_464 : Cond.methodLink RX10 94 yX6_read ∈ lw_tbl := tk_3 (j := 3) rfl
set_option maxRecDepth 20000 in
theorem tw_465 : Cond.instanceMethod yX6_read ∈ lw_tbl := tk_3 (j := 4) rfl
set_option maxRecDepth 20000 in
theorem tw_466 : Cond.selects RX6 yX6_read yX6_read ∈ lw_tbl := tk_3 (j := 5) rfl
set_option maxRecDepth 20000 in
theorem tw_467 : Cond.code yX8_open cX8_open 2 none ∈ lw_tbl := tk_3 (j := 163) rfl
set_option maxRecDepth 20000 in
theorem tw_468 : Cond.methodLink RX10 113 yX8_open ∈ lw_tbl := tk_3 (j := 160) rfl
set_option maxRecDepth 20000 in
theorem tw_469 : Cond.instanceMethod yX8_open ∈ lw_tbl := tk_3 (j := 161) rfl
set_option maxRecDepth 20000 in
theorem tw_470 : Cond.selects RX8 yX8_open yX8_open ∈ lw_tbl := tk_3 (j := 162) rfl
set_option maxRecDepth 20000 in
theorem tw_471 : Cond.code yX5_open cX5_open 5 none ∈ lw_tbl := tk_3 (j := 174) rfl
set_option maxRecDepth 20000 in
theorem tw_472 : Cond.methodLink RX10 117 yX5_open ∈ lw_tbl := tk_3 (j := 171) rfl
set_option maxRecDepth 20000 in
theorem tw_473 : Cond.instanceMethod yX5_open ∈ lw_tbl := tk_3 (j := 172) rfl
set_option maxRecDepth 20000 in
theorem tw_474 : Cond.selects RX5 yX5_open yX5_open ∈ lw_tbl := tk_3 (j := 173) rfl
set_option maxRecDepth 20000 in
theorem tw_475 : Cond.code yX3_open cX3_open 4 none ∈ lw_tbl := tk_3 (j := 192) rfl
set_option maxRecDepth 20000 in
theorem tw_476 : Cond.methodLink RX10 118 yX3_open ∈ lw_tbl := tk_3 (j := 189) rfl
set_option maxRecDepth 20000 in
theorem tw_477 : Cond.instanceMethod yX3_open ∈ lw_tbl := tk_3 (j := 190) rfl
set_option maxRecDepth 20000 in
theorem tw_478 : Cond.selects RX3 yX3_open yX3_open ∈ lw_tbl := tk_3 (j := 191) rfl
set_option maxRecDepth 20000 in
theorem tw_479 : Cond.code yX9_open cX9_open 5 none ∈ lw_tbl := tk_3 (j := 207) rfl
set_option maxRecDepth 20000 in
theorem tw_480 : Cond.methodLink RX10 119 yX9_open ∈ lw_tbl := tk_3 (j := 204) rfl
set_option maxRecDepth 20000 in
theorem tw_481 : Cond.instanceMethod yX9_open ∈ lw_tbl := tk_3 (j := 205) rfl
set_option maxRecDepth 20000 in
theorem tw_482 : Cond.selects RX9 yX9_open yX9_open ∈ lw_tbl := tk_3 (j := 206) rfl
set_option maxRecDepth 20000 in
theorem tw_483 : Cond.code yX4_open cX4_open 1 none ∈ lw_tbl := tk_3 (j := 211) rfl
set_option maxRecDepth 20000 in
theorem tw_484 : Cond.methodLink RX10 120 yX4_open ∈ lw_tbl := tk_3 (j := 208) rfl
set_option maxRecDepth 20000 in
theorem tw_485 : Cond.instanceMethod yX4_open ∈ lw_tbl := tk_3 (j := 209) rfl
set_option maxRecDepth 20000 in
theorem tw_486 : Cond.selects RX4 yX4_open yX4_open ∈ lw_tbl := tk_3 (j := 210) rfl
set_option maxRecDepth 20000 in
theorem tw_487 : Cond.code yX10_told cX10_told 2 (some .int) ∈ lw_tbl := tk_3 (j := 215) rfl
set_option maxRecDepth 20000 in
theorem tw_488 : Cond.methodLink RX10 125 yX10_told ∈ lw_tbl := tk_3 (j := 212) rfl
set_option maxRecDepth 20000 in
theorem tw_489 : Cond.instanceMethod yX10_told ∈ lw_tbl := tk_3 (j := 214) rfl
set_option maxRecDepth 20000 in
theorem tw_490 : Cond.selects RX10 yX10_told yX10_told ∈ lw_tbl := ts_2 (List.mem_of_getElem? (i := 11) rfl)
set_option maxRecDepth 20000 in
theorem tw_491 : Cond.fieldLink RX10 106 "NotAtOnce" "faultPlace" "I" ∈ lw_tbl := tk_2 (j := 197) rfl
set_option maxRecDepth 20000 in
theorem tw_492 : Cond.fieldLink RX10 128 "NotAtOnce" "refusal" "I" ∈ lw_tbl := tk_2 (j := 195) rfl
set_option maxRecDepth 20000 in
theorem tw_493 : Cond.fieldLink RX10 50 "NotAtOnce" "blend" "LNotAtOnce$Blend;" ∈ lw_tbl := tk_2 (j := 188) rfl
set_option maxRecDepth 20000 in
theorem tw_494 : Cond.fieldLink RX10 41 "NotAtOnce" "fraction" "LNotAtOnce$Fraction;" ∈ lw_tbl := tk_2 (j := 193) rfl
set_option maxRecDepth 20000 in
theorem tw_495 : Cond.code yX10_noBook cX10_noBook 1 (some .boolean) ∈ lw_tbl := tk_3 (j := 232) rfl
set_option maxRecDepth 20000 in
theorem tw_496 : Cond.methodLink RX10 131 yX10_noBook ∈ lw_tbl := tk_3 (j := 229) rfl
set_option maxRecDepth 20000 in
theorem tw_497 : Cond.instanceMethod yX10_noBook ∈ lw_tbl := tk_3 (j := 231) rfl
set_option maxRecDepth 20000 in
theorem tw_498 : Cond.selects RX10 yX10_noBook yX10_noBook ∈ lw_tbl := ts_2 (List.mem_of_getElem? (i := 12) rfl)
set_option maxRecDepth 20000 in
theorem tw_499 : Cond.code yX0_findShare cX0_findShare 1 none ∈ lw_tbl := tk_3 (j := 236) rfl
