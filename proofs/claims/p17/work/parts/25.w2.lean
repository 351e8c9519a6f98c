set_option maxRecDepth 20000 in
theorem tw_1000 : Cond.selects RX11 yX11_goesAway yX11_goesAway ∈ lw_tbl := ts_8 (List.mem_of_getElem? (i := 1) rfl)
set_option maxRecDepth 20000 in
theorem tw_1001 : Cond.fieldLink RX11 35 "NotAtOnceModel" "redone" "[I" ∈ lw_tbl := tk_6 (j := 111) rfl
set_option maxRecDepth 20000 in
theorem tw_1002 : Cond.fieldLink RX11 44 "NotAtOnceModel" "redoneActs" "[I" ∈ lw_tbl := tk_6 (j := 114) rfl
set_option maxRecDepth 20000 in
theorem tw_1003 : Cond.fieldLink RX11 38 "NotAtOnceModel" "marked" "[I" ∈ lw_tbl := tk_6 (j := 112) rfl
