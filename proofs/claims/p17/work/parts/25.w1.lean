set_option maxRecDepth 20000 in
theorem tw_500 : Cond.methodLink RX10 135 yX0_findShare ∈ lw_tbl := tk_3 (j := 233) rfl
set_option maxRecDepth 20000 in
theorem tw_501 : Cond.instanceMethod yX0_findShare ∈ lw_tbl := tk_3 (j := 234) rfl
set_option maxRecDepth 20000 in
theorem tw_502 : Cond.selects RX0 yX0_findShare yX0_findShare ∈ lw_tbl := tk_3 (j := 235) rfl
set_option maxRecDepth 20000 in
theorem tw_503 : Cond.code yX2_part cX2_part 2 (some .int) ∈ lw_tbl := tk_4 (j := 58) rfl
set_option maxRecDepth 20000 in
theorem tw_504 : Cond.methodLink RX10 138 yX2_part ∈ lw_tbl := tk_4 (j := 55) rfl
set_option maxRecDepth 20000 in
theorem tw_505 : Cond.instanceMethod yX2_part ∈ lw_tbl := tk_4 (j := 56) rfl
set_option maxRecDepth 20000 in
theorem tw_506 : Cond.selects RX2 yX2_part yX2_part ∈ lw_tbl := tk_4 (j := 57) rfl
set_option maxRecDepth 20000 in
theorem tw_507 : Cond.code yX8_hasLook cX8_hasLook 2 (some .boolean) ∈ lw_tbl := tk_4 (j := 66) rfl
set_option maxRecDepth 20000 in
theorem tw_508 : Cond.methodLink RX10 142 yX8_hasLook ∈ lw_tbl := tk_4 (j := 63) rfl
set_option maxRecDepth 20000 in
theorem tw_509 : Cond.instanceMethod yX8_hasLook ∈ lw_tbl := tk_4 (j := 64) rfl
set_option maxRecDepth 20000 in
theorem tw_510 : Cond.selects RX8 yX8_hasLook yX8_hasLook ∈ lw_tbl := tk_4 (j := 65) rfl
set_option maxRecDepth 20000 in
theorem tw_511 : Cond.code yX10_isBit cX10_isBit 1 (some .boolean) ∈ lw_tbl := tk_4 (j := 69) rfl
set_option maxRecDepth 20000 in
theorem tw_512 : Cond.methodLink RX10 146 yX10_isBit ∈ lw_tbl := tk_4 (j := 67) rfl
set_option maxRecDepth 20000 in
theorem tw_513 : Cond.static yX10_isBit ∈ lw_tbl := tk_4 (j := 68) rfl
set_option maxRecDepth 20000 in
theorem tw_514 : Cond.code yX0_isMixed cX0_isMixed 1 (some .boolean) ∈ lw_tbl := tk_4 (j := 73) rfl
set_option maxRecDepth 20000 in
theorem tw_515 : Cond.methodLink RX10 149 yX0_isMixed ∈ lw_tbl := tk_4 (j := 70) rfl
set_option maxRecDepth 20000 in
theorem tw_516 : Cond.instanceMethod yX0_isMixed ∈ lw_tbl := tk_4 (j := 71) rfl
set_option maxRecDepth 20000 in
theorem tw_517 : Cond.selects RX0 yX0_isMixed yX0_isMixed ∈ lw_tbl := tk_4 (j := 72) rfl
set_option maxRecDepth 20000 in
theorem tw_518 : Cond.code yX0_findTogether cX0_findTogether 5 none ∈ lw_tbl := tk_4 (j := 77) rfl
set_option maxRecDepth 20000 in
theorem tw_519 : Cond.methodLink RX10 152 yX0_findTogether ∈ lw_tbl := tk_4 (j := 74) rfl
set_option maxRecDepth 20000 in
theorem tw_520 : Cond.instanceMethod yX0_findTogether ∈ lw_tbl := tk_4 (j := 75) rfl
set_option maxRecDepth 20000 in
theorem tw_521 : Cond.selects RX0 yX0_findTogether yX0_findTogether ∈ lw_tbl := tk_4 (j := 76) rfl
set_option maxRecDepth 20000 in
theorem tw_522 : Cond.code yX8_hasOutcome cX8_hasOutcome 3 (some .boolean) ∈ lw_tbl := tk_4 (j := 92) rfl
set_option maxRecDepth 20000 in
theorem tw_523 : Cond.methodLink RX10 156 yX8_hasOutcome ∈ lw_tbl := tk_4 (j := 89) rfl
set_option maxRecDepth 20000 in
theorem tw_524 : Cond.instanceMethod yX8_hasOutcome ∈ lw_tbl := tk_4 (j := 90) rfl
set_option maxRecDepth 20000 in
theorem tw_525 : Cond.selects RX8 yX8_hasOutcome yX8_hasOutcome ∈ lw_tbl := tk_4 (j := 91) rfl
set_option maxRecDepth 20000 in
theorem tw_526 : Cond.code yX8_extending cX8_extending 5 (some .int) ∈ lw_tbl := tk_4 (j := 104) rfl
set_option maxRecDepth 20000 in
theorem tw_527 : Cond.methodLink RX10 160 yX8_extending ∈ lw_tbl := tk_4 (j := 101) rfl
set_option maxRecDepth 20000 in
theorem tw_528 : Cond.instanceMethod yX8_extending ∈ lw_tbl := tk_4 (j := 102) rfl
set_option maxRecDepth 20000 in
theorem tw_529 : Cond.selects RX8 yX8_extending yX8_extending ∈ lw_tbl := tk_4 (j := 103) rfl
set_option maxRecDepth 20000 in
theorem tw_530 : Cond.code yX8_possible cX8_possible 3 (some .int) ∈ lw_tbl := tk_4 (j := 114) rfl
set_option maxRecDepth 20000 in
theorem tw_531 : Cond.methodLink RX10 164 yX8_possible ∈ lw_tbl := tk_4 (j := 111) rfl
set_option maxRecDepth 20000 in
theorem tw_532 : Cond.instanceMethod yX8_possible ∈ lw_tbl := tk_4 (j := 112) rfl
set_option maxRecDepth 20000 in
theorem tw_533 : Cond.selects RX8 yX8_possible yX8_possible ∈ lw_tbl := tk_4 (j := 113) rfl
set_option maxRecDepth 20000 in
theorem tw_534 : Cond.code yX8_fitting cX8_fitting 3 (some .int) ∈ lw_tbl := tk_4 (j := 122) rfl
set_option maxRecDepth 20000 in
theorem tw_535 : Cond.methodLink RX10 167 yX8_fitting ∈ lw_tbl := tk_4 (j := 119) rfl
set_option maxRecDepth 20000 in
theorem tw_536 : Cond.instanceMethod yX8_fitting ∈ lw_tbl := tk_4 (j := 120) rfl
set_option maxRecDepth 20000 in
theorem tw_537 : Cond.selects RX8 yX8_fitting yX8_fitting ∈ lw_tbl := tk_4 (j := 121) rfl
set_option maxRecDepth 20000 in
theorem tw_538 : Cond.code yX8_fittingAt cX8_fittingAt 4 (some .int) ∈ lw_tbl := tk_4 (j := 130) rfl
set_option maxRecDepth 20000 in
theorem tw_539 : Cond.methodLink RX10 170 yX8_fittingAt ∈ lw_tbl := tk_4 (j := 127) rfl
set_option maxRecDepth 20000 in
theorem tw_540 : Cond.instanceMethod yX8_fittingAt ∈ lw_tbl := tk_4 (j := 128) rfl
set_option maxRecDepth 20000 in
theorem tw_541 : Cond.selects RX8 yX8_fittingAt yX8_fittingAt ∈ lw_tbl := tk_4 (j := 129) rfl
set_option maxRecDepth 20000 in
theorem tw_542 : Cond.code yX8_firstDisturbed cX8_firstDisturbed 5 (some .int) ∈ lw_tbl := tk_4 (j := 138) rfl
set_option maxRecDepth 20000 in
theorem tw_543 : Cond.methodLink RX10 173 yX8_firstDisturbed ∈ lw_tbl := tk_4 (j := 135) rfl
set_option maxRecDepth 20000 in
theorem tw_544 : Cond.instanceMethod yX8_firstDisturbed ∈ lw_tbl := tk_4 (j := 136) rfl
set_option maxRecDepth 20000 in
theorem tw_545 : Cond.selects RX8 yX8_firstDisturbed yX8_firstDisturbed ∈ lw_tbl := tk_4 (j := 137) rfl
set_option maxRecDepth 20000 in
theorem tw_546 : Cond.methodLink RX10 176 yX8_hasPair ∈ lw_tbl := tk_4 (j := 147) rfl
set_option maxRecDepth 20000 in
theorem tw_547 : Cond.methodLink RX10 179 yX8_alike ∈ lw_tbl := tk_4 (j := 151) rfl
set_option maxRecDepth 20000 in
theorem tw_548 : Cond.fieldLink RX10 34 "NotAtOnce" "rings" "LNotAtOnce$Rings;" ∈ lw_tbl := tk_2 (j := 187) rfl
set_option maxRecDepth 20000 in
theorem tw_549 : Cond.code yX7_number cX7_number 3 (some .int) ∈ lw_tbl := tk_4 (j := 162) rfl
set_option maxRecDepth 20000 in
theorem tw_550 : Cond.methodLink RX10 182 yX7_number ∈ lw_tbl := tk_4 (j := 159) rfl
set_option maxRecDepth 20000 in
theorem tw_551 : Cond.instanceMethod yX7_number ∈ lw_tbl := tk_4 (j := 160) rfl
set_option maxRecDepth 20000 in
theorem tw_552 : Cond.selects RX7 yX7_number yX7_number ∈ lw_tbl := tk_4 (j := 161) rfl
set_option maxRecDepth 20000 in
theorem tw_553 : Cond.code yX7_ringAt cX7_ringAt 4 (some .int) ∈ lw_tbl := tk_4 (j := 184) rfl
set_option maxRecDepth 20000 in
theorem tw_554 : Cond.methodLink RX10 185 yX7_ringAt ∈ lw_tbl := tk_4 (j := 181) rfl
set_option maxRecDepth 20000 in
theorem tw_555 : Cond.instanceMethod yX7_ringAt ∈ lw_tbl := tk_4 (j := 182) rfl
set_option maxRecDepth 20000 in
theorem tw_556 : Cond.selects RX7 yX7_ringAt yX7_ringAt ∈ lw_tbl := tk_4 (j := 183) rfl
set_option maxRecDepth 20000 in
theorem tw_557 : Cond.methodLink RX10 188 yX7_isRing ∈ lw_tbl := tk_4 (j := 189) rfl
set_option maxRecDepth 20000 in
theorem tw_558 : Cond.methodLink RX10 191 yX7_surplus ∈ lw_tbl := tk_4 (j := 190) rfl
set_option maxRecDepth 20000 in
theorem tw_559 : Cond.code yX7_greatest cX7_greatest 3 (some .int) ∈ lw_tbl := tk_4 (j := 206) rfl
set_option maxRecDepth 20000 in
theorem tw_560 : Cond.methodLink RX10 194 yX7_greatest ∈ lw_tbl := tk_4 (j := 203) rfl
set_option maxRecDepth 20000 in
theorem tw_561 : Cond.instanceMethod yX7_greatest ∈ lw_tbl := tk_4 (j := 204) rfl
set_option maxRecDepth 20000 in
theorem tw_562 : Cond.selects RX7 yX7_greatest yX7_greatest ∈ lw_tbl := tk_4 (j := 205) rfl
set_option maxRecDepth 20000 in
theorem tw_563 : Cond.fieldLink RX10 200 "NotAtOnce$Table" "coins" "[I" ∈ lw_tbl := tk_1 (j := 195) rfl
set_option maxRecDepth 20000 in
theorem tw_564 : Cond.code yX10_denied cX10_denied 2 (some .boolean) ∈ lw_tbl := tk_4 (j := 215) rfl
set_option maxRecDepth 20000 in
theorem tw_565 : Cond.methodLink RX10 197 yX10_denied ∈ lw_tbl := tk_4 (j := 212) rfl
set_option maxRecDepth 20000 in
theorem tw_566 : Cond.instanceMethod yX10_denied ∈ lw_tbl := tk_4 (j := 214) rfl
set_option maxRecDepth 20000 in
theorem tw_567 : Cond.selects RX10 yX10_denied yX10_denied ∈ lw_tbl := ts_3 (List.mem_of_getElem? (i := 10) rfl)
set_option maxRecDepth 20000 in
theorem tw_568 : Cond.code yX10_done cX10_done 1 (some .boolean) ∈ lw_tbl := tk_4 (j := 219) rfl
set_option maxRecDepth 20000 in
theorem tw_569 : Cond.methodLink RX10 203 yX10_done ∈ lw_tbl := tk_4 (j := 216) rfl
set_option maxRecDepth 20000 in
theorem tw_570 : Cond.instanceMethod yX10_done ∈ lw_tbl := tk_4 (j := 218) rfl
set_option maxRecDepth 20000 in
theorem tw_571 : Cond.selects RX10 yX10_done yX10_done ∈ lw_tbl := ts_3 (List.mem_of_getElem? (i := 11) rfl)
set_option maxRecDepth 20000 in
theorem tw_572 : Cond.code yX8_winnings cX8_winnings 3 (some .int) ∈ lw_tbl := tk_4 (j := 227) rfl
set_option maxRecDepth 20000 in
theorem tw_573 : Cond.methodLink RX10 206 yX8_winnings ∈ lw_tbl := tk_4 (j := 224) rfl
set_option maxRecDepth 20000 in
theorem tw_574 : Cond.instanceMethod yX8_winnings ∈ lw_tbl := tk_4 (j := 225) rfl
set_option maxRecDepth 20000 in
theorem tw_575 : Cond.selects RX8 yX8_winnings yX8_winnings ∈ lw_tbl := tk_4 (j := 226) rfl
set_option maxRecDepth 20000 in
theorem tw_576 : Cond.code yX8_leastPaid cX8_leastPaid 3 (some .int) ∈ lw_tbl := tk_4 (j := 235) rfl
set_option maxRecDepth 20000 in
theorem tw_577 : Cond.methodLink RX10 209 yX8_leastPaid ∈ lw_tbl := tk_4 (j := 232) rfl
set_option maxRecDepth 20000 in
theorem tw_578 : Cond.instanceMethod yX8_leastPaid ∈ lw_tbl := tk_4 (j := 233) rfl
set_option maxRecDepth 20000 in
theorem tw_579 : Cond.selects RX8 yX8_leastPaid yX8_leastPaid ∈ lw_tbl := tk_4 (j := 234) rfl
set_option maxRecDepth 20000 in
theorem tw_580 : Cond.methodLink RX10 212 yX8_pay ∈ lw_tbl := tk_5 (j := 0) rfl
set_option maxRecDepth 20000 in
theorem tw_581 : Cond.fieldLink RX10 215 "NotAtOnce$Table" "law" "I" ∈ lw_tbl := tk_1 (j := 176) rfl
set_option maxRecDepth 20000 in
theorem tw_582 : Cond.methodLink RX10 218 yX2_set ∈ lw_tbl := tk_5 (j := 13) rfl
set_option maxRecDepth 20000 in
theorem tw_583 : Cond.fieldLink RX10 222 "NotAtOnce$Parities" "ways" "I" ∈ lw_tbl := tk_2 (j := 43) rfl
set_option maxRecDepth 20000 in
theorem tw_584 : Cond.fieldLink RX10 225 "NotAtOnce$Parities" "points" "I" ∈ lw_tbl := tk_2 (j := 39) rfl
set_option maxRecDepth 20000 in
theorem tw_585 : Cond.code yX5_valueOf cX5_valueOf 4 (some .int) ∈ lw_tbl := tk_5 (j := 25) rfl
set_option maxRecDepth 20000 in
theorem tw_586 : Cond.methodLink RX10 228 yX5_valueOf ∈ lw_tbl := tk_5 (j := 22) rfl
set_option maxRecDepth 20000 in
theorem tw_587 : Cond.instanceMethod yX5_valueOf ∈ lw_tbl := tk_5 (j := 23) rfl
set_option maxRecDepth 20000 in
theorem tw_588 : Cond.selects RX5 yX5_valueOf yX5_valueOf ∈ lw_tbl := tk_5 (j := 24) rfl
set_option maxRecDepth 20000 in
theorem tw_589 : Cond.code yX5_leastBroken cX5_leastBroken 3 (some .int) ∈ lw_tbl := tk_5 (j := 33) rfl
set_option maxRecDepth 20000 in
theorem tw_590 : Cond.methodLink RX10 231 yX5_leastBroken ∈ lw_tbl := tk_5 (j := 30) rfl
set_option maxRecDepth 20000 in
theorem tw_591 : Cond.instanceMethod yX5_leastBroken ∈ lw_tbl := tk_5 (j := 31) rfl
set_option maxRecDepth 20000 in
theorem tw_592 : Cond.selects RX5 yX5_leastBroken yX5_leastBroken ∈ lw_tbl := tk_5 (j := 32) rfl
set_option maxRecDepth 20000 in
theorem tw_593 : Cond.fieldLink RX10 234 "NotAtOnce$Parities" "lines" "I" ∈ lw_tbl := tk_2 (j := 41) rfl
set_option maxRecDepth 20000 in
theorem tw_594 : Cond.code yX5_holds cX5_holds 2 (some .boolean) ∈ lw_tbl := tk_5 (j := 41) rfl
set_option maxRecDepth 20000 in
theorem tw_595 : Cond.methodLink RX10 237 yX5_holds ∈ lw_tbl := tk_5 (j := 38) rfl
set_option maxRecDepth 20000 in
theorem tw_596 : Cond.instanceMethod yX5_holds ∈ lw_tbl := tk_5 (j := 39) rfl
set_option maxRecDepth 20000 in
theorem tw_597 : Cond.selects RX5 yX5_holds yX5_holds ∈ lw_tbl := tk_5 (j := 40) rfl
set_option maxRecDepth 20000 in
theorem tw_598 : Cond.code yX5_mostHeld cX5_mostHeld 3 (some .int) ∈ lw_tbl := tk_5 (j := 49) rfl
set_option maxRecDepth 20000 in
theorem tw_599 : Cond.methodLink RX10 240 yX5_mostHeld ∈ lw_tbl := tk_5 (j := 46) rfl
set_option maxRecDepth 20000 in
theorem tw_600 : Cond.instanceMethod yX5_mostHeld ∈ lw_tbl := tk_5 (j := 47) rfl
set_option maxRecDepth 20000 in
theorem tw_601 : Cond.selects RX5 yX5_mostHeld yX5_mostHeld ∈ lw_tbl := tk_5 (j := 48) rfl
set_option maxRecDepth 20000 in
theorem tw_602 : Cond.fieldLink RX10 246 "NotAtOnce$Frames" "meets" "[I" ∈ lw_tbl := tk_2 (j := 80) rfl
set_option maxRecDepth 20000 in
theorem tw_603 : Cond.code yX3_hasRay cX3_hasRay 2 (some .boolean) ∈ lw_tbl := tk_5 (j := 60) rfl
set_option maxRecDepth 20000 in
theorem tw_604 : Cond.methodLink RX10 243 yX3_hasRay ∈ lw_tbl := tk_5 (j := 57) rfl
set_option maxRecDepth 20000 in
theorem tw_605 : Cond.instanceMethod yX3_hasRay ∈ lw_tbl := tk_5 (j := 58) rfl
set_option maxRecDepth 20000 in
theorem tw_606 : Cond.selects RX3 yX3_hasRay yX3_hasRay ∈ lw_tbl := tk_5 (j := 59) rfl
set_option maxRecDepth 20000 in
theorem tw_607 : Cond.fieldLink RX10 249 "NotAtOnce$Frames" "corners" "I" ∈ lw_tbl := tk_2 (j := 70) rfl
set_option maxRecDepth 20000 in
theorem tw_608 : Cond.fieldLink RX10 255 "NotAtOnce$Frames" "colourings" "I" ∈ lw_tbl := tk_2 (j := 72) rfl
set_option maxRecDepth 20000 in
theorem tw_609 : Cond.code yX3_work cX3_work 3 none ∈ lw_tbl := tk_5 (j := 72) rfl
set_option maxRecDepth 20000 in
theorem tw_610 : Cond.methodLink RX10 252 yX3_work ∈ lw_tbl := tk_5 (j := 69) rfl
set_option maxRecDepth 20000 in
theorem tw_611 : Cond.instanceMethod yX3_work ∈ lw_tbl := tk_5 (j := 70) rfl
set_option maxRecDepth 20000 in
theorem tw_612 : Cond.selects RX3 yX3_work yX3_work ∈ lw_tbl := tk_5 (j := 71) rfl
set_option maxRecDepth 20000 in
theorem tw_613 : Cond.fieldLink RX10 258 "NotAtOnce$Frames" "mostOnes" "I" ∈ lw_tbl := tk_2 (j := 74) rfl
set_option maxRecDepth 20000 in
theorem tw_614 : Cond.fieldLink RX10 261 "NotAtOnce$Frames" "spares" "I" ∈ lw_tbl := tk_2 (j := 76) rfl
set_option maxRecDepth 20000 in
theorem tw_615 : Cond.fieldLink RX10 264 "NotAtOnce$Frames" "staying" "I" ∈ lw_tbl := tk_2 (j := 78) rfl
set_option maxRecDepth 20000 in
theorem tw_616 : Cond.fieldLink RX10 268 "NotAtOnce$Telling" "states" "I" ∈ lw_tbl := tk_2 (j := 120) rfl
set_option maxRecDepth 20000 in
theorem tw_617 : Cond.code yX9_work cX9_work 3 none ∈ lw_tbl := tk_5 (j := 109) rfl
set_option maxRecDepth 20000 in
theorem tw_618 : Cond.methodLink RX10 267 yX9_work ∈ lw_tbl := tk_5 (j := 106) rfl
set_option maxRecDepth 20000 in
theorem tw_619 : Cond.instanceMethod yX9_work ∈ lw_tbl := tk_5 (j := 107) rfl
set_option maxRecDepth 20000 in
theorem tw_620 : Cond.selects RX9 yX9_work yX9_work ∈ lw_tbl := tk_5 (j := 108) rfl
set_option maxRecDepth 20000 in
theorem tw_621 : Cond.code yX9_entry cX9_entry 5 (some .int) ∈ lw_tbl := tk_5 (j := 127) rfl
set_option maxRecDepth 20000 in
theorem tw_622 : Cond.methodLink RX10 271 yX9_entry ∈ lw_tbl := tk_5 (j := 124) rfl
set_option maxRecDepth 20000 in
theorem tw_623 : Cond.instanceMethod yX9_entry ∈ lw_tbl := tk_5 (j := 125) rfl
set_option maxRecDepth 20000 in
theorem tw_624 : Cond.selects RX9 yX9_entry yX9_entry ∈ lw_tbl := tk_5 (j := 126) rfl
set_option maxRecDepth 20000 in
theorem tw_625 : Cond.code yX4_begin cX4_begin 4 none ∈ lw_tbl := tk_5 (j := 135) rfl
set_option maxRecDepth 20000 in
theorem tw_626 : Cond.methodLink RX10 275 yX4_begin ∈ lw_tbl := tk_5 (j := 132) rfl
set_option maxRecDepth 20000 in
theorem tw_627 : Cond.instanceMethod yX4_begin ∈ lw_tbl := tk_5 (j := 133) rfl
set_option maxRecDepth 20000 in
theorem tw_628 : Cond.selects RX4 yX4_begin yX4_begin ∈ lw_tbl := tk_5 (j := 134) rfl
set_option maxRecDepth 20000 in
theorem tw_629 : Cond.code yX8_turn cX8_turn 4 none ∈ lw_tbl := tk_5 (j := 147) rfl
set_option maxRecDepth 20000 in
theorem tw_630 : Cond.methodLink RX10 279 yX8_turn ∈ lw_tbl := tk_5 (j := 144) rfl
set_option maxRecDepth 20000 in
theorem tw_631 : Cond.instanceMethod yX8_turn ∈ lw_tbl := tk_5 (j := 145) rfl
set_option maxRecDepth 20000 in
theorem tw_632 : Cond.selects RX8 yX8_turn yX8_turn ∈ lw_tbl := tk_5 (j := 146) rfl
set_option maxRecDepth 20000 in
theorem tw_633 : Cond.methodLink RX10 282 yX8_hasSet ∈ lw_tbl := tk_5 (j := 156) rfl
set_option maxRecDepth 20000 in
theorem tw_634 : Cond.methodLink RX10 285 yX8_remove ∈ lw_tbl := tk_5 (j := 157) rfl
set_option maxRecDepth 20000 in
theorem tw_635 : Cond.code yX8_isLookedAt cX8_isLookedAt 3 (some .boolean) ∈ lw_tbl := tk_5 (j := 168) rfl
set_option maxRecDepth 20000 in
theorem tw_636 : Cond.methodLink RX10 288 yX8_isLookedAt ∈ lw_tbl := tk_5 (j := 165) rfl
set_option maxRecDepth 20000 in
theorem tw_637 : Cond.instanceMethod yX8_isLookedAt ∈ lw_tbl := tk_5 (j := 166) rfl
set_option maxRecDepth 20000 in
theorem tw_638 : Cond.selects RX8 yX8_isLookedAt yX8_isLookedAt ∈ lw_tbl := tk_5 (j := 167) rfl
set_option maxRecDepth 20000 in
theorem tw_639 : Cond.code yX8_merge cX8_merge 3 none ∈ lw_tbl := tk_5 (j := 172) rfl
set_option maxRecDepth 20000 in
theorem tw_640 : Cond.methodLink RX10 291 yX8_merge ∈ lw_tbl := tk_5 (j := 169) rfl
set_option maxRecDepth 20000 in
theorem tw_641 : Cond.instanceMethod yX8_merge ∈ lw_tbl := tk_5 (j := 170) rfl
set_option maxRecDepth 20000 in
theorem tw_642 : Cond.selects RX8 yX8_merge yX8_merge ∈ lw_tbl := tk_5 (j := 171) rfl
set_option maxRecDepth 20000 in
theorem tw_643 : Cond.fieldLink RX10 294 "NotAtOnce$Table" "times" "[I" ∈ lw_tbl := tk_1 (j := 193) rfl
set_option maxRecDepth 20000 in
theorem tw_644 : Cond.code yX4_tellMove cX4_tellMove 5 none ∈ lw_tbl := tk_5 (j := 185) rfl
set_option maxRecDepth 20000 in
theorem tw_645 : Cond.methodLink RX10 297 yX4_tellMove ∈ lw_tbl := tk_5 (j := 182) rfl
set_option maxRecDepth 20000 in
theorem tw_646 : Cond.instanceMethod yX4_tellMove ∈ lw_tbl := tk_5 (j := 183) rfl
set_option maxRecDepth 20000 in
theorem tw_647 : Cond.selects RX4 yX4_tellMove yX4_tellMove ∈ lw_tbl := tk_5 (j := 184) rfl
set_option maxRecDepth 20000 in
theorem tw_648 : Cond.code yX8_move cX8_move 4 none ∈ lw_tbl := tk_5 (j := 189) rfl
set_option maxRecDepth 20000 in
theorem tw_649 : Cond.methodLink RX10 301 yX8_move ∈ lw_tbl := tk_5 (j := 186) rfl
set_option maxRecDepth 20000 in
theorem tw_650 : Cond.instanceMethod yX8_move ∈ lw_tbl := tk_5 (j := 187) rfl
set_option maxRecDepth 20000 in
theorem tw_651 : Cond.selects RX8 yX8_move yX8_move ∈ lw_tbl := tk_5 (j := 188) rfl
set_option maxRecDepth 20000 in
theorem tw_652 : Cond.code yX4_takeBack cX4_takeBack 1 (some .boolean) ∈ lw_tbl := tk_5 (j := 197) rfl
set_option maxRecDepth 20000 in
theorem tw_653 : Cond.methodLink RX10 304 yX4_takeBack ∈ lw_tbl := tk_5 (j := 194) rfl
set_option maxRecDepth 20000 in
theorem tw_654 : Cond.instanceMethod yX4_takeBack ∈ lw_tbl := tk_5 (j := 195) rfl
set_option maxRecDepth 20000 in
theorem tw_655 : Cond.selects RX4 yX4_takeBack yX4_takeBack ∈ lw_tbl := tk_5 (j := 196) rfl
set_option maxRecDepth 20000 in
theorem tw_656 : Cond.code yX4_makeAgain cX4_makeAgain 1 (some .boolean) ∈ lw_tbl := tk_5 (j := 209) rfl
set_option maxRecDepth 20000 in
theorem tw_657 : Cond.methodLink RX10 307 yX4_makeAgain ∈ lw_tbl := tk_5 (j := 206) rfl
set_option maxRecDepth 20000 in
theorem tw_658 : Cond.instanceMethod yX4_makeAgain ∈ lw_tbl := tk_5 (j := 207) rfl
set_option maxRecDepth 20000 in
theorem tw_659 : Cond.selects RX4 yX4_makeAgain yX4_makeAgain ∈ lw_tbl := tk_5 (j := 208) rfl
set_option maxRecDepth 20000 in
theorem tw_660 : Cond.fieldLink RX10 310 "NotAtOnce$History" "marks" "I" ∈ lw_tbl := tk_2 (j := 163) rfl
set_option maxRecDepth 20000 in
theorem tw_661 : Cond.code yX4_keep cX4_keep 1 (some .int) ∈ lw_tbl := tk_5 (j := 217) rfl
set_option maxRecDepth 20000 in
theorem tw_662 : Cond.methodLink RX10 313 yX4_keep ∈ lw_tbl := tk_5 (j := 214) rfl
set_option maxRecDepth 20000 in
theorem tw_663 : Cond.instanceMethod yX4_keep ∈ lw_tbl := tk_5 (j := 215) rfl
set_option maxRecDepth 20000 in
theorem tw_664 : Cond.selects RX4 yX4_keep yX4_keep ∈ lw_tbl := tk_5 (j := 216) rfl
set_option maxRecDepth 20000 in
theorem tw_665 : Cond.code yX4_goBack cX4_goBack 2 (some .boolean) ∈ lw_tbl := tk_5 (j := 225) rfl
set_option maxRecDepth 20000 in
theorem tw_666 : Cond.methodLink RX10 316 yX4_goBack ∈ lw_tbl := tk_5 (j := 222) rfl
set_option maxRecDepth 20000 in
theorem tw_667 : Cond.instanceMethod yX4_goBack ∈ lw_tbl := tk_5 (j := 223) rfl
set_option maxRecDepth 20000 in
theorem tw_668 : Cond.selects RX4 yX4_goBack yX4_goBack ∈ lw_tbl := tk_5 (j := 224) rfl
set_option maxRecDepth 20000 in
theorem tw_669 : Cond.fieldLink RX10 319 "NotAtOnce$History" "made" "I" ∈ lw_tbl := tk_2 (j := 159) rfl
set_option maxRecDepth 20000 in
theorem tw_670 : Cond.fieldLink RX10 322 "NotAtOnce$History" "acts" "[[I" ∈ lw_tbl := tk_2 (j := 165) rfl
set_option maxRecDepth 20000 in
theorem tw_671 : Cond.fieldLink RX10 326 "NotAtOnce$Table" "second" "[I" ∈ lw_tbl := tk_1 (j := 190) rfl
set_option maxRecDepth 20000 in
theorem tw_672 : Cond.fieldLink RX10 329 "NotAtOnce$Table" "first" "[I" ∈ lw_tbl := tk_1 (j := 187) rfl
set_option maxRecDepth 20000 in
theorem tw_673 : Cond.fieldLink RX10 357 "NotAtOnce$History" "known" "I" ∈ lw_tbl := tk_2 (j := 161) rfl
set_option maxRecDepth 20000 in
theorem tw_674 : Cond.fieldLink RX10 354 "NotAtOnce$Telling" "runs" "I" ∈ lw_tbl := tk_2 (j := 118) rfl
set_option maxRecDepth 20000 in
theorem tw_675 : Cond.fieldLink RX10 351 "NotAtOnce$Frames" "rays" "I" ∈ lw_tbl := tk_2 (j := 68) rfl
set_option maxRecDepth 20000 in
theorem tw_676 : Cond.fieldLink RX10 348 "NotAtOnce$Table" "count" "I" ∈ lw_tbl := tk_1 (j := 182) rfl
set_option maxRecDepth 20000 in
theorem tw_677 : Cond.fieldLink RX10 9 "NotAtOnce" "tape" "[I" ∈ lw_tbl := tk_2 (j := 184) rfl
set_option maxRecDepth 20000 in
theorem tw_678 : Cond.fieldLink RX11 69 "NotAtOnceModel" "thrown" "I" ∈ lw_tbl := tk_6 (j := 91) rfl
set_option maxRecDepth 20000 in
theorem tw_679 : Cond.fieldLink RX11 72 "NotAtOnceModel" "trouble" "I" ∈ lw_tbl := tk_6 (j := 102) rfl
set_option maxRecDepth 20000 in
theorem tw_680 : Cond.fieldLink RX11 75 "NotAtOnceModel" "taped" "I" ∈ lw_tbl := tk_6 (j := 93) rfl
set_option maxRecDepth 20000 in
theorem tw_681 : Cond.fieldLink RX11 7 "NotAtOnceModel" "tape" "[I" ∈ lw_tbl := tk_6 (j := 92) rfl
set_option maxRecDepth 20000 in
theorem tw_682 : Cond.fieldLink RX11 78 "NotAtOnceModel" "size" "I" ∈ lw_tbl := tk_6 (j := 94) rfl
set_option maxRecDepth 20000 in
theorem tw_683 : Cond.fieldLink RX11 81 "NotAtOnceModel" "end" "I" ∈ lw_tbl := tk_6 (j := 96) rfl
set_option maxRecDepth 20000 in
theorem tw_684 : Cond.fieldLink RX11 91 "NotAtOnceModel" "nameSize" "I" ∈ lw_tbl := tk_6 (j := 99) rfl
set_option maxRecDepth 20000 in
theorem tw_685 : Cond.fieldLink RX11 17 "NotAtOnceModel" "letters" "[I" ∈ lw_tbl := tk_6 (j := 103) rfl
set_option maxRecDepth 20000 in
theorem tw_686 : Cond.fieldLink RX11 94 "NotAtOnceModel" "whole" "I" ∈ lw_tbl := tk_6 (j := 98) rfl
set_option maxRecDepth 20000 in
theorem tw_687 : Cond.code yX11_see cX11_see 2 (some .int) ∈ lw_tbl := tk_6 (j := 238) rfl
set_option maxRecDepth 20000 in
theorem tw_688 : Cond.methodLink RX11 84 yX11_see ∈ lw_tbl := tk_6 (j := 235) rfl
set_option maxRecDepth 20000 in
theorem tw_689 : Cond.initialized RX11 ∈ lw_tbl := tk_1 (j := 12) rfl
set_option maxRecDepth 20000 in
theorem tw_690 : Cond.instanceMethod yX11_see ∈ lw_tbl := tk_6 (j := 237) rfl
set_option maxRecDepth 20000 in
theorem tw_691 : Cond.selects RX11 yX11_see yX11_see ∈ lw_tbl := ts_4 (List.mem_of_getElem? (i := 8) rfl)
set_option maxRecDepth 20000 in
theorem tw_692 : Cond.fieldLink RX11 88 "NotAtOnceModel" "at" "I" ∈ lw_tbl := tk_6 (j := 95) rfl
set_option maxRecDepth 20000 in
theorem tw_693 : Cond.code yX11_isSmall cX11_isSmall 1 (some .boolean) ∈ lw_tbl := tk_7 (j := 1) rfl
set_option maxRecDepth 20000 in
theorem tw_694 : Cond.methodLink RX11 100 yX11_isSmall ∈ lw_tbl := tk_6 (j := 239) rfl
set_option maxRecDepth 20000 in
theorem tw_695 : Cond.static yX11_isSmall ∈ lw_tbl := tk_7 (j := 0) rfl
set_option maxRecDepth 20000 in
theorem tw_696 : Cond.code yX11_isDigit cX11_isDigit 1 (some .boolean) ∈ lw_tbl := tk_7 (j := 4) rfl
set_option maxRecDepth 20000 in
theorem tw_697 : Cond.methodLink RX11 104 yX11_isDigit ∈ lw_tbl := tk_7 (j := 2) rfl
set_option maxRecDepth 20000 in
theorem tw_698 : Cond.static yX11_isDigit ∈ lw_tbl := tk_7 (j := 3) rfl
set_option maxRecDepth 20000 in
theorem tw_699 : Cond.fieldLink RX11 97 "NotAtOnceModel" "token" "I" ∈ lw_tbl := tk_6 (j := 97) rfl
set_option maxRecDepth 20000 in
theorem tw_700 : Cond.fieldLink RX11 107 "NotAtOnceModel" "failed" "Z" ∈ lw_tbl := tk_6 (j := 104) rfl
set_option maxRecDepth 20000 in
theorem tw_701 : Cond.fieldLink RX11 111 "NotAtOnceModel" "fault" "I" ∈ lw_tbl := tk_6 (j := 100) rfl
set_option maxRecDepth 20000 in
theorem tw_702 : Cond.fieldLink RX11 13 "NotAtOnceModel" "place" "I" ∈ lw_tbl := tk_6 (j := 101) rfl
set_option maxRecDepth 20000 in
theorem tw_703 : Cond.methodLink RX11 114 yJ0_length_8abf5 ∈ lw_tbl := tk_7 (j := 18) rfl
set_option maxRecDepth 20000 in
theorem tw_704 : Cond.methodLink RX11 120 yJ0_charAt_5068e ∈ lw_tbl := tk_7 (j := 19) rfl
set_option maxRecDepth 20000 in
theorem tw_705 : Cond.code yX11_isWord cX11_isWord 4 (some .boolean) ∈ lw_tbl := tk_7 (j := 17) rfl
set_option maxRecDepth 20000 in
theorem tw_706 : Cond.methodLink RX11 124 yX11_isWord ∈ lw_tbl := tk_7 (j := 14) rfl
set_option maxRecDepth 20000 in
theorem tw_707 : Cond.instanceMethod yX11_isWord ∈ lw_tbl := tk_7 (j := 16) rfl
set_option maxRecDepth 20000 in
theorem tw_708 : Cond.selects RX11 yX11_isWord yX11_isWord ∈ lw_tbl := ts_4 (List.mem_of_getElem? (i := 11) rfl)
set_option maxRecDepth 20000 in
theorem tw_709 : Cond.code yX11_next cX11_next 4 none ∈ lw_tbl := tk_6 (j := 234) rfl
set_option maxRecDepth 20000 in
theorem tw_710 : Cond.methodLink RX11 128 yX11_next ∈ lw_tbl := tk_6 (j := 231) rfl
set_option maxRecDepth 20000 in
theorem tw_711 : Cond.instanceMethod yX11_next ∈ lw_tbl := tk_6 (j := 233) rfl
set_option maxRecDepth 20000 in
theorem tw_712 : Cond.selects RX11 yX11_next yX11_next ∈ lw_tbl := ts_4 (List.mem_of_getElem? (i := 7) rfl)
set_option maxRecDepth 20000 in
theorem tw_713 : Cond.code yX11_takes cX11_takes 2 (some .boolean) ∈ lw_tbl := tk_7 (j := 36) rfl
set_option maxRecDepth 20000 in
theorem tw_714 : Cond.methodLink RX11 131 yX11_takes ∈ lw_tbl := tk_7 (j := 33) rfl
set_option maxRecDepth 20000 in
theorem tw_715 : Cond.instanceMethod yX11_takes ∈ lw_tbl := tk_7 (j := 35) rfl
set_option maxRecDepth 20000 in
theorem tw_716 : Cond.selects RX11 yX11_takes yX11_takes ∈ lw_tbl := ts_4 (List.mem_of_getElem? (i := 15) rfl)
set_option maxRecDepth 20000 in
theorem tw_717 : Cond.code yX11_wrong cX11_wrong 3 none ∈ lw_tbl := tk_7 (j := 23) rfl
set_option maxRecDepth 20000 in
theorem tw_718 : Cond.methodLink RX11 134 yX11_wrong ∈ lw_tbl := tk_7 (j := 20) rfl
set_option maxRecDepth 20000 in
theorem tw_719 : Cond.instanceMethod yX11_wrong ∈ lw_tbl := tk_7 (j := 22) rfl
set_option maxRecDepth 20000 in
theorem tw_720 : Cond.selects RX11 yX11_wrong yX11_wrong ∈ lw_tbl := ts_4 (List.mem_of_getElem? (i := 12) rfl)
set_option maxRecDepth 20000 in
theorem tw_721 : Cond.fieldLink RX11 23 "NotAtOnceModel" "fresh" "[I" ∈ lw_tbl := tk_6 (j := 107) rfl
set_option maxRecDepth 20000 in
theorem tw_722 : Cond.code yX11_mustName cX11_mustName 2 none ∈ lw_tbl := tk_7 (j := 49) rfl
set_option maxRecDepth 20000 in
theorem tw_723 : Cond.methodLink RX11 152 yX11_mustName ∈ lw_tbl := tk_7 (j := 46) rfl
set_option maxRecDepth 20000 in
theorem tw_724 : Cond.instanceMethod yX11_mustName ∈ lw_tbl := tk_7 (j := 48) rfl
set_option maxRecDepth 20000 in
theorem tw_725 : Cond.selects RX11 yX11_mustName yX11_mustName ∈ lw_tbl := ts_5 (List.mem_of_getElem? (i := 2) rfl)
set_option maxRecDepth 20000 in
theorem tw_726 : Cond.code yX11_find cX11_find 4 (some .int) ∈ lw_tbl := tk_7 (j := 58) rfl
set_option maxRecDepth 20000 in
theorem tw_727 : Cond.methodLink RX11 155 yX11_find ∈ lw_tbl := tk_7 (j := 55) rfl
set_option maxRecDepth 20000 in
theorem tw_728 : Cond.instanceMethod yX11_find ∈ lw_tbl := tk_7 (j := 57) rfl
set_option maxRecDepth 20000 in
theorem tw_729 : Cond.selects RX11 yX11_find yX11_find ∈ lw_tbl := ts_5 (List.mem_of_getElem? (i := 3) rfl)
set_option maxRecDepth 20000 in
theorem tw_730 : Cond.code yX11_comma cX11_comma 1 (some .boolean) ∈ lw_tbl := tk_7 (j := 62) rfl
set_option maxRecDepth 20000 in
theorem tw_731 : Cond.methodLink RX11 158 yX11_comma ∈ lw_tbl := tk_7 (j := 59) rfl
set_option maxRecDepth 20000 in
theorem tw_732 : Cond.instanceMethod yX11_comma ∈ lw_tbl := tk_7 (j := 61) rfl
set_option maxRecDepth 20000 in
theorem tw_733 : Cond.selects RX11 yX11_comma yX11_comma ∈ lw_tbl := ts_5 (List.mem_of_getElem? (i := 4) rfl)
set_option maxRecDepth 20000 in
theorem tw_734 : Cond.code yX11_has cX11_has 2 (some .boolean) ∈ lw_tbl := tk_7 (j := 77) rfl
set_option maxRecDepth 20000 in
theorem tw_735 : Cond.methodLink RX11 162 yX11_has ∈ lw_tbl := tk_7 (j := 75) rfl
set_option maxRecDepth 20000 in
theorem tw_736 : Cond.static yX11_has ∈ lw_tbl := tk_7 (j := 76) rfl
set_option maxRecDepth 20000 in
theorem tw_737 : Cond.code yX11_named cX11_named 5 (some .int) ∈ lw_tbl := tk_7 (j := 74) rfl
set_option maxRecDepth 20000 in
theorem tw_738 : Cond.methodLink RX11 166 yX11_named ∈ lw_tbl := tk_7 (j := 71) rfl
set_option maxRecDepth 20000 in
theorem tw_739 : Cond.instanceMethod yX11_named ∈ lw_tbl := tk_7 (j := 73) rfl
set_option maxRecDepth 20000 in
theorem tw_740 : Cond.selects RX11 yX11_named yX11_named ∈ lw_tbl := ts_5 (List.mem_of_getElem? (i := 7) rfl)
set_option maxRecDepth 20000 in
theorem tw_741 : Cond.code yX11_within cX11_within 3 (some .boolean) ∈ lw_tbl := tk_6 (j := 226) rfl
set_option maxRecDepth 20000 in
theorem tw_742 : Cond.methodLink RX11 170 yX11_within ∈ lw_tbl := tk_6 (j := 224) rfl
set_option maxRecDepth 20000 in
theorem tw_743 : Cond.static yX11_within ∈ lw_tbl := tk_6 (j := 225) rfl
set_option maxRecDepth 20000 in
theorem tw_744 : Cond.fieldLink RX11 20 "NotAtOnceModel" "\x72" "[I" ∈ lw_tbl := tk_6 (j := 106) rfl
set_option maxRecDepth 20000 in
theorem tw_745 : Cond.code yX11_good cX11_good 1 none ∈ lw_tbl := tk_6 (j := 223) rfl
set_option maxRecDepth 20000 in
theorem tw_746 : Cond.methodLink RX11 174 yX11_good ∈ lw_tbl := tk_6 (j := 220) rfl
set_option maxRecDepth 20000 in
theorem tw_747 : Cond.instanceMethod yX11_good ∈ lw_tbl := tk_6 (j := 222) rfl
set_option maxRecDepth 20000 in
theorem tw_748 : Cond.selects RX11 yX11_good yX11_good ∈ lw_tbl := ts_4 (List.mem_of_getElem? (i := 5) rfl)
set_option maxRecDepth 20000 in
theorem tw_749 : Cond.code yX11_no cX11_no 2 (some .int) ∈ lw_tbl := tk_6 (j := 230) rfl
set_option maxRecDepth 20000 in
theorem tw_750 : Cond.methodLink RX11 177 yX11_no ∈ lw_tbl := tk_6 (j := 227) rfl
set_option maxRecDepth 20000 in
theorem tw_751 : Cond.instanceMethod yX11_no ∈ lw_tbl := tk_6 (j := 229) rfl
set_option maxRecDepth 20000 in
theorem tw_752 : Cond.selects RX11 yX11_no yX11_no ∈ lw_tbl := ts_4 (List.mem_of_getElem? (i := 6) rfl)
set_option maxRecDepth 20000 in
theorem tw_753 : Cond.code yX11_readLine cX11_readLine 1 none ∈ lw_tbl := tk_7 (j := 8) rfl
set_option maxRecDepth 20000 in
theorem tw_754 : Cond.methodLink RX11 180 yX11_readLine ∈ lw_tbl := tk_7 (j := 5) rfl
set_option maxRecDepth 20000 in
theorem tw_755 : Cond.instanceMethod yX11_readLine ∈ lw_tbl := tk_7 (j := 7) rfl
set_option maxRecDepth 20000 in
theorem tw_756 : Cond.selects RX11 yX11_readLine yX11_readLine ∈ lw_tbl := ts_4 (List.mem_of_getElem? (i := 9) rfl)
set_option maxRecDepth 20000 in
theorem tw_757 : Cond.fieldLink RX11 183 "NotAtOnceModel" "hasBook" "Z" ∈ lw_tbl := tk_6 (j := 105) rfl
set_option maxRecDepth 20000 in
theorem tw_758 : Cond.code yX11_noCoins cX11_noCoins 2 none ∈ lw_tbl := tk_7 (j := 101) rfl
set_option maxRecDepth 20000 in
theorem tw_759 : Cond.methodLink RX11 186 yX11_noCoins ∈ lw_tbl := tk_7 (j := 98) rfl
set_option maxRecDepth 20000 in
theorem tw_760 : Cond.instanceMethod yX11_noCoins ∈ lw_tbl := tk_7 (j := 100) rfl
set_option maxRecDepth 20000 in
theorem tw_761 : Cond.selects RX11 yX11_noCoins yX11_noCoins ∈ lw_tbl := ts_5 (List.mem_of_getElem? (i := 12) rfl)
set_option maxRecDepth 20000 in
theorem tw_762 : Cond.fieldLink RX11 189 "NotAtOnceModel" "undos" "I" ∈ lw_tbl := tk_6 (j := 115) rfl
set_option maxRecDepth 20000 in
theorem tw_763 : Cond.fieldLink RX11 192 "NotAtOnceModel" "redos" "I" ∈ lw_tbl := tk_6 (j := 116) rfl
set_option maxRecDepth 20000 in
theorem tw_764 : Cond.fieldLink RX11 195 "NotAtOnceModel" "marks" "I" ∈ lw_tbl := tk_6 (j := 117) rfl
set_option maxRecDepth 20000 in
theorem tw_765 : Cond.fieldLink RX11 26 "NotAtOnceModel" "coins" "[I" ∈ lw_tbl := tk_6 (j := 108) rfl
set_option maxRecDepth 20000 in
theorem tw_766 : Cond.code yX11_begins cX11_begins 4 (some .boolean) ∈ lw_tbl := tk_7 (j := 13) rfl
set_option maxRecDepth 20000 in
theorem tw_767 : Cond.methodLink RX11 198 yX11_begins ∈ lw_tbl := tk_7 (j := 10) rfl
set_option maxRecDepth 20000 in
theorem tw_768 : Cond.instanceMethod yX11_begins ∈ lw_tbl := tk_7 (j := 12) rfl
set_option maxRecDepth 20000 in
theorem tw_769 : Cond.selects RX11 yX11_begins yX11_begins ∈ lw_tbl := ts_4 (List.mem_of_getElem? (i := 10) rfl)
set_option maxRecDepth 20000 in
theorem tw_770 : Cond.code yX11_runLine cX11_runLine 5 none ∈ lw_tbl := tk_7 (j := 97) rfl
set_option maxRecDepth 20000 in
theorem tw_771 : Cond.methodLink RX11 218 yX11_runLine ∈ lw_tbl := tk_7 (j := 94) rfl
set_option maxRecDepth 20000 in
theorem tw_772 : Cond.instanceMethod yX11_runLine ∈ lw_tbl := tk_7 (j := 96) rfl
set_option maxRecDepth 20000 in
theorem tw_773 : Cond.selects RX11 yX11_runLine yX11_runLine ∈ lw_tbl := ts_5 (List.mem_of_getElem? (i := 11) rfl)
set_option maxRecDepth 20000 in
theorem tw_774 : Cond.code yX11_rayLine cX11_rayLine 7 none ∈ lw_tbl := tk_7 (j := 93) rfl
set_option maxRecDepth 20000 in
theorem tw_775 : Cond.methodLink RX11 215 yX11_rayLine ∈ lw_tbl := tk_7 (j := 90) rfl
set_option maxRecDepth 20000 in
theorem tw_776 : Cond.instanceMethod yX11_rayLine ∈ lw_tbl := tk_7 (j := 92) rfl
set_option maxRecDepth 20000 in
theorem tw_777 : Cond.selects RX11 yX11_rayLine yX11_rayLine ∈ lw_tbl := ts_5 (List.mem_of_getElem? (i := 10) rfl)
set_option maxRecDepth 20000 in
theorem tw_778 : Cond.code yX11_lineLine cX11_lineLine 5 none ∈ lw_tbl := tk_7 (j := 86) rfl
set_option maxRecDepth 20000 in
theorem tw_779 : Cond.methodLink RX11 212 yX11_lineLine ∈ lw_tbl := tk_7 (j := 83) rfl
set_option maxRecDepth 20000 in
theorem tw_780 : Cond.instanceMethod yX11_lineLine ∈ lw_tbl := tk_7 (j := 85) rfl
set_option maxRecDepth 20000 in
theorem tw_781 : Cond.selects RX11 yX11_lineLine yX11_lineLine ∈ lw_tbl := ts_5 (List.mem_of_getElem? (i := 9) rfl)
set_option maxRecDepth 20000 in
theorem tw_782 : Cond.code yX11_setLine cX11_setLine 8 none ∈ lw_tbl := tk_7 (j := 66) rfl
set_option maxRecDepth 20000 in
theorem tw_783 : Cond.methodLink RX11 209 yX11_setLine ∈ lw_tbl := tk_7 (j := 63) rfl
set_option maxRecDepth 20000 in
theorem tw_784 : Cond.instanceMethod yX11_setLine ∈ lw_tbl := tk_7 (j := 65) rfl
set_option maxRecDepth 20000 in
theorem tw_785 : Cond.selects RX11 yX11_setLine yX11_setLine ∈ lw_tbl := ts_5 (List.mem_of_getElem? (i := 5) rfl)
set_option maxRecDepth 20000 in
theorem tw_786 : Cond.code yX11_newNames cX11_newNames 7 none ∈ lw_tbl := tk_7 (j := 45) rfl
set_option maxRecDepth 20000 in
theorem tw_787 : Cond.methodLink RX11 205 yX11_newNames ∈ lw_tbl := tk_7 (j := 42) rfl
set_option maxRecDepth 20000 in
theorem tw_788 : Cond.instanceMethod yX11_newNames ∈ lw_tbl := tk_7 (j := 44) rfl
set_option maxRecDepth 20000 in
theorem tw_789 : Cond.selects RX11 yX11_newNames yX11_newNames ∈ lw_tbl := ts_5 (List.mem_of_getElem? (i := 1) rfl)
set_option maxRecDepth 20000 in
theorem tw_790 : Cond.code yX11_lawLine cX11_lawLine 2 none ∈ lw_tbl := tk_7 (j := 27) rfl
set_option maxRecDepth 20000 in
theorem tw_791 : Cond.methodLink RX11 202 yX11_lawLine ∈ lw_tbl := tk_7 (j := 24) rfl
set_option maxRecDepth 20000 in
theorem tw_792 : Cond.instanceMethod yX11_lawLine ∈ lw_tbl := tk_7 (j := 26) rfl
set_option maxRecDepth 20000 in
theorem tw_793 : Cond.selects RX11 yX11_lawLine yX11_lawLine ∈ lw_tbl := ts_4 (List.mem_of_getElem? (i := 13) rfl)
set_option maxRecDepth 20000 in
theorem tw_794 : Cond.code yX11_pass cX11_pass 2 none ∈ lw_tbl := tk_7 (j := 32) rfl
set_option maxRecDepth 20000 in
theorem tw_795 : Cond.methodLink RX11 223 yX11_pass ∈ lw_tbl := tk_7 (j := 29) rfl
set_option maxRecDepth 20000 in
theorem tw_796 : Cond.instanceMethod yX11_pass ∈ lw_tbl := tk_7 (j := 31) rfl
set_option maxRecDepth 20000 in
theorem tw_797 : Cond.selects RX11 yX11_pass yX11_pass ∈ lw_tbl := ts_4 (List.mem_of_getElem? (i := 14) rfl)
set_option maxRecDepth 20000 in
theorem tw_798 : Cond.code yX11_number cX11_number 4 (some .int) ∈ lw_tbl := tk_7 (j := 40) rfl
set_option maxRecDepth 20000 in
theorem tw_799 : Cond.methodLink RX11 227 yX11_number ∈ lw_tbl := tk_7 (j := 37) rfl
set_option maxRecDepth 20000 in
theorem tw_800 : Cond.instanceMethod yX11_number ∈ lw_tbl := tk_7 (j := 39) rfl
set_option maxRecDepth 20000 in
theorem tw_801 : Cond.selects RX11 yX11_number yX11_number ∈ lw_tbl := ts_5 (List.mem_of_getElem? (i := 0) rfl)
set_option maxRecDepth 20000 in
theorem tw_802 : Cond.code yX11_passed cX11_passed 4 (some .int) ∈ lw_tbl := tk_7 (j := 70) rfl
set_option maxRecDepth 20000 in
theorem tw_803 : Cond.methodLink RX11 231 yX11_passed ∈ lw_tbl := tk_7 (j := 67) rfl
set_option maxRecDepth 20000 in
theorem tw_804 : Cond.instanceMethod yX11_passed ∈ lw_tbl := tk_7 (j := 69) rfl
set_option maxRecDepth 20000 in
theorem tw_805 : Cond.selects RX11 yX11_passed yX11_passed ∈ lw_tbl := ts_5 (List.mem_of_getElem? (i := 6) rfl)
set_option maxRecDepth 20000 in
theorem tw_806 : Cond.code yX11_mustComma cX11_mustComma 1 none ∈ lw_tbl := tk_7 (j := 82) rfl
set_option maxRecDepth 20000 in
theorem tw_807 : Cond.methodLink RX11 235 yX11_mustComma ∈ lw_tbl := tk_7 (j := 79) rfl
set_option maxRecDepth 20000 in
theorem tw_808 : Cond.instanceMethod yX11_mustComma ∈ lw_tbl := tk_7 (j := 81) rfl
set_option maxRecDepth 20000 in
theorem tw_809 : Cond.selects RX11 yX11_mustComma yX11_mustComma ∈ lw_tbl := ts_5 (List.mem_of_getElem? (i := 8) rfl)
set_option maxRecDepth 20000 in
theorem tw_810 : Cond.code yX11_isSet cX11_isSet 2 (some .boolean) ∈ lw_tbl := tk_7 (j := 177) rfl
set_option maxRecDepth 20000 in
theorem tw_811 : Cond.methodLink RX11 244 yX11_isSet ∈ lw_tbl := tk_7 (j := 174) rfl
set_option maxRecDepth 20000 in
theorem tw_812 : Cond.instanceMethod yX11_isSet ∈ lw_tbl := tk_7 (j := 176) rfl
set_option maxRecDepth 20000 in
theorem tw_813 : Cond.selects RX11 yX11_isSet yX11_isSet ∈ lw_tbl := ts_6 (List.mem_of_getElem? (i := 6) rfl)
set_option maxRecDepth 20000 in
theorem tw_814 : Cond.code yX11_outcomes cX11_outcomes 2 (some .int) ∈ lw_tbl := tk_7 (j := 128) rfl
set_option maxRecDepth 20000 in
theorem tw_815 : Cond.methodLink RX11 247 yX11_outcomes ∈ lw_tbl := tk_7 (j := 126) rfl
set_option maxRecDepth 20000 in
theorem tw_816 : Cond.static yX11_outcomes ∈ lw_tbl := tk_7 (j := 127) rfl
set_option maxRecDepth 20000 in
theorem tw_817 : Cond.fieldLink RX11 254 "NotAtOnceModel" "rows" "I" ∈ lw_tbl := tk_6 (j := 121) rfl
set_option maxRecDepth 20000 in
theorem tw_818 : Cond.fieldLink RX11 47 "NotAtOnceModel" "tab" "[J" ∈ lw_tbl := tk_6 (j := 118) rfl
set_option maxRecDepth 20000 in
theorem tw_819 : Cond.fieldLink RX11 257 "NotAtOnceModel" "wide" "I" ∈ lw_tbl := tk_6 (j := 122) rfl
set_option maxRecDepth 20000 in
theorem tw_820 : Cond.fieldLink RX11 51 "NotAtOnceModel" "basis" "[I" ∈ lw_tbl := tk_6 (j := 119) rfl
set_option maxRecDepth 20000 in
theorem tw_821 : Cond.code yX11_hiddenMany cX11_hiddenMany 1 (some .int) ∈ lw_tbl := tk_7 (j := 125) rfl
set_option maxRecDepth 20000 in
theorem tw_822 : Cond.methodLink RX11 251 yX11_hiddenMany ∈ lw_tbl := tk_7 (j := 122) rfl
set_option maxRecDepth 20000 in
theorem tw_823 : Cond.instanceMethod yX11_hiddenMany ∈ lw_tbl := tk_7 (j := 124) rfl
set_option maxRecDepth 20000 in
theorem tw_824 : Cond.selects RX11 yX11_hiddenMany yX11_hiddenMany ∈ lw_tbl := ts_5 (List.mem_of_getElem? (i := 15) rfl)
set_option maxRecDepth 20000 in
theorem tw_825 : Cond.code yX11_cell cX11_cell 2 (some .int) ∈ lw_tbl := tk_7 (j := 131) rfl
set_option maxRecDepth 20000 in
theorem tw_826 : Cond.methodLink RX11 260 yX11_cell ∈ lw_tbl := tk_7 (j := 129) rfl
set_option maxRecDepth 20000 in
theorem tw_827 : Cond.static yX11_cell ∈ lw_tbl := tk_7 (j := 130) rfl
set_option maxRecDepth 20000 in
theorem tw_828 : Cond.code yX11_fitted cX11_fitted 4 (some .int) ∈ lw_tbl := tk_7 (j := 135) rfl
set_option maxRecDepth 20000 in
theorem tw_829 : Cond.methodLink RX11 263 yX11_fitted ∈ lw_tbl := tk_7 (j := 132) rfl
set_option maxRecDepth 20000 in
theorem tw_830 : Cond.instanceMethod yX11_fitted ∈ lw_tbl := tk_7 (j := 134) rfl
set_option maxRecDepth 20000 in
theorem tw_831 : Cond.selects RX11 yX11_fitted yX11_fitted ∈ lw_tbl := ts_6 (List.mem_of_getElem? (i := 0) rfl)
set_option maxRecDepth 20000 in
theorem tw_832 : Cond.fieldLink RX11 268 "NotAtOnceModel" "below" "J" ∈ lw_tbl := tk_6 (j := 120) rfl
set_option maxRecDepth 20000 in
theorem tw_833 : Cond.constantLong RX11 266 (-1) ∈ lw_tbl := tk_7 (j := 136) rfl
set_option maxRecDepth 20000 in
theorem tw_834 : Cond.code yX11_bounding cX11_bounding 12 (some .int) ∈ lw_tbl := tk_7 (j := 144) rfl
set_option maxRecDepth 20000 in
theorem tw_835 : Cond.methodLink RX11 272 yX11_bounding ∈ lw_tbl := tk_7 (j := 141) rfl
set_option maxRecDepth 20000 in
theorem tw_836 : Cond.instanceMethod yX11_bounding ∈ lw_tbl := tk_7 (j := 143) rfl
set_option maxRecDepth 20000 in
theorem tw_837 : Cond.selects RX11 yX11_bounding yX11_bounding ∈ lw_tbl := ts_6 (List.mem_of_getElem? (i := 2) rfl)
set_option maxRecDepth 20000 in
theorem tw_838 : Cond.code yX11_turnOver cX11_turnOver 9 none ∈ lw_tbl := tk_7 (j := 148) rfl
set_option maxRecDepth 20000 in
theorem tw_839 : Cond.methodLink RX11 275 yX11_turnOver ∈ lw_tbl := tk_7 (j := 145) rfl
set_option maxRecDepth 20000 in
theorem tw_840 : Cond.instanceMethod yX11_turnOver ∈ lw_tbl := tk_7 (j := 147) rfl
set_option maxRecDepth 20000 in
theorem tw_841 : Cond.selects RX11 yX11_turnOver yX11_turnOver ∈ lw_tbl := ts_6 (List.mem_of_getElem? (i := 3) rfl)
set_option maxRecDepth 20000 in
theorem tw_842 : Cond.code yX11_common cX11_common 10 (some .long) ∈ lw_tbl := tk_7 (j := 154) rfl
set_option maxRecDepth 20000 in
theorem tw_843 : Cond.methodLink RX11 278 yX11_common ∈ lw_tbl := tk_7 (j := 152) rfl
set_option maxRecDepth 20000 in
theorem tw_844 : Cond.static yX11_common ∈ lw_tbl := tk_7 (j := 153) rfl
set_option maxRecDepth 20000 in
theorem tw_845 : Cond.code yX11_layTab cX11_layTab 6 none ∈ lw_tbl := tk_7 (j := 121) rfl
set_option maxRecDepth 20000 in
theorem tw_846 : Cond.methodLink RX11 282 yX11_layTab ∈ lw_tbl := tk_7 (j := 118) rfl
set_option maxRecDepth 20000 in
theorem tw_847 : Cond.instanceMethod yX11_layTab ∈ lw_tbl := tk_7 (j := 120) rfl
set_option maxRecDepth 20000 in
theorem tw_848 : Cond.selects RX11 yX11_layTab yX11_layTab ∈ lw_tbl := ts_5 (List.mem_of_getElem? (i := 14) rfl)
set_option maxRecDepth 20000 in
theorem tw_849 : Cond.code yX11_goesUp cX11_goesUp 5 none ∈ lw_tbl := tk_7 (j := 140) rfl
set_option maxRecDepth 20000 in
theorem tw_850 : Cond.methodLink RX11 285 yX11_goesUp ∈ lw_tbl := tk_7 (j := 137) rfl
set_option maxRecDepth 20000 in
theorem tw_851 : Cond.instanceMethod yX11_goesUp ∈ lw_tbl := tk_7 (j := 139) rfl
set_option maxRecDepth 20000 in
theorem tw_852 : Cond.selects RX11 yX11_goesUp yX11_goesUp ∈ lw_tbl := ts_6 (List.mem_of_getElem? (i := 1) rfl)
set_option maxRecDepth 20000 in
theorem tw_853 : Cond.code yX11_isMixed cX11_isMixed 1 (some .boolean) ∈ lw_tbl := tk_7 (j := 117) rfl
set_option maxRecDepth 20000 in
theorem tw_854 : Cond.methodLink RX11 289 yX11_isMixed ∈ lw_tbl := tk_7 (j := 114) rfl
set_option maxRecDepth 20000 in
theorem tw_855 : Cond.instanceMethod yX11_isMixed ∈ lw_tbl := tk_7 (j := 116) rfl
set_option maxRecDepth 20000 in
theorem tw_856 : Cond.selects RX11 yX11_isMixed yX11_isMixed ∈ lw_tbl := ts_5 (List.mem_of_getElem? (i := 13) rfl)
set_option maxRecDepth 20000 in
theorem tw_857 : Cond.code yX11_lowest cX11_lowest 7 (some .int) ∈ lw_tbl := tk_7 (j := 151) rfl
set_option maxRecDepth 20000 in
theorem tw_858 : Cond.methodLink RX11 292 yX11_lowest ∈ lw_tbl := tk_7 (j := 149) rfl
set_option maxRecDepth 20000 in
theorem tw_859 : Cond.static yX11_lowest ∈ lw_tbl := tk_7 (j := 150) rfl
set_option maxRecDepth 20000 in
theorem tw_860 : Cond.code yX11_isLook cX11_isLook 2 (some .boolean) ∈ lw_tbl := tk_7 (j := 162) rfl
set_option maxRecDepth 20000 in
theorem tw_861 : Cond.methodLink RX11 296 yX11_isLook ∈ lw_tbl := tk_7 (j := 159) rfl
set_option maxRecDepth 20000 in
theorem tw_862 : Cond.instanceMethod yX11_isLook ∈ lw_tbl := tk_7 (j := 161) rfl
set_option maxRecDepth 20000 in
theorem tw_863 : Cond.selects RX11 yX11_isLook yX11_isLook ∈ lw_tbl := ts_6 (List.mem_of_getElem? (i := 4) rfl)
set_option maxRecDepth 20000 in
theorem tw_864 : Cond.code yX11_isBit cX11_isBit 1 (some .boolean) ∈ lw_tbl := tk_7 (j := 165) rfl
set_option maxRecDepth 20000 in
theorem tw_865 : Cond.methodLink RX11 299 yX11_isBit ∈ lw_tbl := tk_7 (j := 163) rfl
set_option maxRecDepth 20000 in
theorem tw_866 : Cond.static yX11_isBit ∈ lw_tbl := tk_7 (j := 164) rfl
set_option maxRecDepth 20000 in
theorem tw_867 : Cond.code yX11_fitsAll cX11_fitsAll 5 (some .boolean) ∈ lw_tbl := tk_7 (j := 185) rfl
set_option maxRecDepth 20000 in
theorem tw_868 : Cond.methodLink RX11 302 yX11_fitsAll ∈ lw_tbl := tk_7 (j := 182) rfl
set_option maxRecDepth 20000 in
theorem tw_869 : Cond.instanceMethod yX11_fitsAll ∈ lw_tbl := tk_7 (j := 184) rfl
set_option maxRecDepth 20000 in
theorem tw_870 : Cond.selects RX11 yX11_fitsAll yX11_fitsAll ∈ lw_tbl := ts_6 (List.mem_of_getElem? (i := 8) rfl)
set_option maxRecDepth 20000 in
theorem tw_871 : Cond.code yX11_isOutcome cX11_isOutcome 3 (some .boolean) ∈ lw_tbl := tk_7 (j := 173) rfl
set_option maxRecDepth 20000 in
theorem tw_872 : Cond.methodLink RX11 305 yX11_isOutcome ∈ lw_tbl := tk_7 (j := 170) rfl
set_option maxRecDepth 20000 in
theorem tw_873 : Cond.instanceMethod yX11_isOutcome ∈ lw_tbl := tk_7 (j := 172) rfl
set_option maxRecDepth 20000 in
theorem tw_874 : Cond.selects RX11 yX11_isOutcome yX11_isOutcome ∈ lw_tbl := ts_6 (List.mem_of_getElem? (i := 5) rfl)
set_option maxRecDepth 20000 in
theorem tw_875 : Cond.code yX11_doesExtend cX11_doesExtend 5 (some .boolean) ∈ lw_tbl := tk_7 (j := 181) rfl
set_option maxRecDepth 20000 in
theorem tw_876 : Cond.methodLink RX11 308 yX11_doesExtend ∈ lw_tbl := tk_7 (j := 178) rfl
set_option maxRecDepth 20000 in
theorem tw_877 : Cond.instanceMethod yX11_doesExtend ∈ lw_tbl := tk_7 (j := 180) rfl
set_option maxRecDepth 20000 in
theorem tw_878 : Cond.selects RX11 yX11_doesExtend yX11_doesExtend ∈ lw_tbl := ts_6 (List.mem_of_getElem? (i := 7) rfl)
set_option maxRecDepth 20000 in
theorem tw_879 : Cond.code yX11_fittingAnswer cX11_fittingAnswer 4 (some .int) ∈ lw_tbl := tk_7 (j := 197) rfl
set_option maxRecDepth 20000 in
theorem tw_880 : Cond.methodLink RX11 311 yX11_fittingAnswer ∈ lw_tbl := tk_7 (j := 194) rfl
set_option maxRecDepth 20000 in
theorem tw_881 : Cond.instanceMethod yX11_fittingAnswer ∈ lw_tbl := tk_7 (j := 196) rfl
set_option maxRecDepth 20000 in
theorem tw_882 : Cond.selects RX11 yX11_fittingAnswer yX11_fittingAnswer ∈ lw_tbl := ts_6 (List.mem_of_getElem? (i := 9) rfl)
set_option maxRecDepth 20000 in
theorem tw_883 : Cond.code yX11_onesOf cX11_onesOf 4 (some .int) ∈ lw_tbl := tk_7 (j := 209) rfl
set_option maxRecDepth 20000 in
theorem tw_884 : Cond.methodLink RX11 314 yX11_onesOf ∈ lw_tbl := tk_7 (j := 206) rfl
set_option maxRecDepth 20000 in
theorem tw_885 : Cond.instanceMethod yX11_onesOf ∈ lw_tbl := tk_7 (j := 208) rfl
set_option maxRecDepth 20000 in
theorem tw_886 : Cond.selects RX11 yX11_onesOf yX11_onesOf ∈ lw_tbl := ts_6 (List.mem_of_getElem? (i := 10) rfl)
set_option maxRecDepth 20000 in
theorem tw_887 : Cond.code yX11_less cX11_less 3 (some .int) ∈ lw_tbl := tk_7 (j := 221) rfl
set_option maxRecDepth 20000 in
theorem tw_888 : Cond.methodLink RX11 320 yX11_less ∈ lw_tbl := tk_7 (j := 218) rfl
set_option maxRecDepth 20000 in
theorem tw_889 : Cond.instanceMethod yX11_less ∈ lw_tbl := tk_7 (j := 220) rfl
set_option maxRecDepth 20000 in
theorem tw_890 : Cond.selects RX11 yX11_less yX11_less ∈ lw_tbl := ts_6 (List.mem_of_getElem? (i := 12) rfl)
set_option maxRecDepth 20000 in
theorem tw_891 : Cond.code yX11_sameOf cX11_sameOf 3 (some .int) ∈ lw_tbl := tk_7 (j := 217) rfl
set_option maxRecDepth 20000 in
theorem tw_892 : Cond.methodLink RX11 317 yX11_sameOf ∈ lw_tbl := tk_7 (j := 214) rfl
set_option maxRecDepth 20000 in
theorem tw_893 : Cond.instanceMethod yX11_sameOf ∈ lw_tbl := tk_7 (j := 216) rfl
set_option maxRecDepth 20000 in
theorem tw_894 : Cond.selects RX11 yX11_sameOf yX11_sameOf ∈ lw_tbl := ts_6 (List.mem_of_getElem? (i := 11) rfl)
set_option maxRecDepth 20000 in
theorem tw_895 : Cond.code yX11_bits cX11_bits 3 (some .int) ∈ lw_tbl := tk_7 (j := 236) rfl
set_option maxRecDepth 20000 in
theorem tw_896 : Cond.methodLink RX11 323 yX11_bits ∈ lw_tbl := tk_7 (j := 234) rfl
set_option maxRecDepth 20000 in
theorem tw_897 : Cond.static yX11_bits ∈ lw_tbl := tk_7 (j := 235) rfl
set_option maxRecDepth 20000 in
theorem tw_898 : Cond.code yX11_isCycle cX11_isCycle 8 (some .boolean) ∈ lw_tbl := tk_7 (j := 233) rfl
set_option maxRecDepth 20000 in
theorem tw_899 : Cond.methodLink RX11 326 yX11_isCycle ∈ lw_tbl := tk_7 (j := 230) rfl
set_option maxRecDepth 20000 in
theorem tw_900 : Cond.instanceMethod yX11_isCycle ∈ lw_tbl := tk_7 (j := 232) rfl
set_option maxRecDepth 20000 in
theorem tw_901 : Cond.selects RX11 yX11_isCycle yX11_isCycle ∈ lw_tbl := ts_6 (List.mem_of_getElem? (i := 14) rfl)
set_option maxRecDepth 20000 in
theorem tw_902 : Cond.code yX11_cycleOf cX11_cycleOf 4 (some .int) ∈ lw_tbl := tk_7 (j := 229) rfl
set_option maxRecDepth 20000 in
theorem tw_903 : Cond.methodLink RX11 329 yX11_cycleOf ∈ lw_tbl := tk_7 (j := 226) rfl
set_option maxRecDepth 20000 in
theorem tw_904 : Cond.instanceMethod yX11_cycleOf ∈ lw_tbl := tk_7 (j := 228) rfl
set_option maxRecDepth 20000 in
theorem tw_905 : Cond.selects RX11 yX11_cycleOf yX11_cycleOf ∈ lw_tbl := ts_6 (List.mem_of_getElem? (i := 13) rfl)
set_option maxRecDepth 20000 in
theorem tw_906 : Cond.constant RX11 332 (-100000) ∈ lw_tbl := tk_8 (j := 9) rfl
set_option maxRecDepth 20000 in
theorem tw_907 : Cond.code yX11_excessOf cX11_excessOf 6 (some .int) ∈ lw_tbl := tk_8 (j := 8) rfl
set_option maxRecDepth 20000 in
theorem tw_908 : Cond.methodLink RX11 333 yX11_excessOf ∈ lw_tbl := tk_8 (j := 5) rfl
set_option maxRecDepth 20000 in
theorem tw_909 : Cond.instanceMethod yX11_excessOf ∈ lw_tbl := tk_8 (j := 7) rfl
set_option maxRecDepth 20000 in
theorem tw_910 : Cond.selects RX11 yX11_excessOf yX11_excessOf ∈ lw_tbl := ts_6 (List.mem_of_getElem? (i := 15) rfl)
set_option maxRecDepth 20000 in
theorem tw_911 : Cond.code yX11_isNot cX11_isNot 2 (some .boolean) ∈ lw_tbl := tk_8 (j := 21) rfl
set_option maxRecDepth 20000 in
theorem tw_912 : Cond.methodLink RX11 336 yX11_isNot ∈ lw_tbl := tk_8 (j := 18) rfl
set_option maxRecDepth 20000 in
theorem tw_913 : Cond.instanceMethod yX11_isNot ∈ lw_tbl := tk_8 (j := 20) rfl
set_option maxRecDepth 20000 in
theorem tw_914 : Cond.selects RX11 yX11_isNot yX11_isNot ∈ lw_tbl := ts_7 (List.mem_of_getElem? (i := 0) rfl)
set_option maxRecDepth 20000 in
theorem tw_915 : Cond.code yX11_paid cX11_paid 4 (some .int) ∈ lw_tbl := tk_8 (j := 41) rfl
set_option maxRecDepth 20000 in
theorem tw_916 : Cond.methodLink RX11 339 yX11_paid ∈ lw_tbl := tk_8 (j := 38) rfl
set_option maxRecDepth 20000 in
theorem tw_917 : Cond.instanceMethod yX11_paid ∈ lw_tbl := tk_8 (j := 40) rfl
set_option maxRecDepth 20000 in
theorem tw_918 : Cond.selects RX11 yX11_paid yX11_paid ∈ lw_tbl := ts_7 (List.mem_of_getElem? (i := 3) rfl)
set_option maxRecDepth 20000 in
theorem tw_919 : Cond.code yX11_winsOf cX11_winsOf 4 (some .int) ∈ lw_tbl := tk_8 (j := 29) rfl
set_option maxRecDepth 20000 in
theorem tw_920 : Cond.methodLink RX11 342 yX11_winsOf ∈ lw_tbl := tk_8 (j := 26) rfl
set_option maxRecDepth 20000 in
theorem tw_921 : Cond.instanceMethod yX11_winsOf ∈ lw_tbl := tk_8 (j := 28) rfl
set_option maxRecDepth 20000 in
theorem tw_922 : Cond.selects RX11 yX11_winsOf yX11_winsOf ∈ lw_tbl := ts_7 (List.mem_of_getElem? (i := 1) rfl)
set_option maxRecDepth 20000 in
theorem tw_923 : Cond.code yX11_worstHidden cX11_worstHidden 3 (some .int) ∈ lw_tbl := tk_8 (j := 37) rfl
set_option maxRecDepth 20000 in
theorem tw_924 : Cond.methodLink RX11 345 yX11_worstHidden ∈ lw_tbl := tk_8 (j := 34) rfl
set_option maxRecDepth 20000 in
theorem tw_925 : Cond.instanceMethod yX11_worstHidden ∈ lw_tbl := tk_8 (j := 36) rfl
set_option maxRecDepth 20000 in
theorem tw_926 : Cond.selects RX11 yX11_worstHidden yX11_worstHidden ∈ lw_tbl := ts_7 (List.mem_of_getElem? (i := 2) rfl)
set_option maxRecDepth 20000 in
theorem tw_927 : Cond.code yX11_linesBy cX11_linesBy 6 (some .int) ∈ lw_tbl := tk_8 (j := 61) rfl
set_option maxRecDepth 20000 in
theorem tw_928 : Cond.methodLink RX11 348 yX11_linesBy ∈ lw_tbl := tk_8 (j := 58) rfl
set_option maxRecDepth 20000 in
theorem tw_929 : Cond.instanceMethod yX11_linesBy ∈ lw_tbl := tk_8 (j := 60) rfl
set_option maxRecDepth 20000 in
theorem tw_930 : Cond.selects RX11 yX11_linesBy yX11_linesBy ∈ lw_tbl := ts_7 (List.mem_of_getElem? (i := 4) rfl)
set_option maxRecDepth 20000 in
theorem tw_931 : Cond.code yX11_allLines cX11_allLines 1 (some .int) ∈ lw_tbl := tk_8 (j := 65) rfl
set_option maxRecDepth 20000 in
theorem tw_932 : Cond.methodLink RX11 351 yX11_allLines ∈ lw_tbl := tk_8 (j := 62) rfl
set_option maxRecDepth 20000 in
theorem tw_933 : Cond.instanceMethod yX11_allLines ∈ lw_tbl := tk_8 (j := 64) rfl
set_option maxRecDepth 20000 in
theorem tw_934 : Cond.selects RX11 yX11_allLines yX11_allLines ∈ lw_tbl := ts_7 (List.mem_of_getElem? (i := 5) rfl)
set_option maxRecDepth 20000 in
theorem tw_935 : Cond.code yX11_canLines cX11_canLines 4 (some .boolean) ∈ lw_tbl := tk_8 (j := 77) rfl
set_option maxRecDepth 20000 in
theorem tw_936 : Cond.methodLink RX11 354 yX11_canLines ∈ lw_tbl := tk_8 (j := 74) rfl
set_option maxRecDepth 20000 in
theorem tw_937 : Cond.instanceMethod yX11_canLines ∈ lw_tbl := tk_8 (j := 76) rfl
set_option maxRecDepth 20000 in
theorem tw_938 : Cond.selects RX11 yX11_canLines yX11_canLines ∈ lw_tbl := ts_7 (List.mem_of_getElem? (i := 6) rfl)
set_option maxRecDepth 20000 in
theorem tw_939 : Cond.code yX11_isRay cX11_isRay 2 (some .boolean) ∈ lw_tbl := tk_8 (j := 93) rfl
set_option maxRecDepth 20000 in
theorem tw_940 : Cond.methodLink RX11 357 yX11_isRay ∈ lw_tbl := tk_8 (j := 90) rfl
set_option maxRecDepth 20000 in
theorem tw_941 : Cond.instanceMethod yX11_isRay ∈ lw_tbl := tk_8 (j := 92) rfl
set_option maxRecDepth 20000 in
theorem tw_942 : Cond.selects RX11 yX11_isRay yX11_isRay ∈ lw_tbl := ts_7 (List.mem_of_getElem? (i := 7) rfl)
set_option maxRecDepth 20000 in
theorem tw_943 : Cond.code yX11_areSquare cX11_areSquare 5 (some .boolean) ∈ lw_tbl := tk_8 (j := 97) rfl
set_option maxRecDepth 20000 in
theorem tw_944 : Cond.methodLink RX11 360 yX11_areSquare ∈ lw_tbl := tk_8 (j := 94) rfl
set_option maxRecDepth 20000 in
theorem tw_945 : Cond.instanceMethod yX11_areSquare ∈ lw_tbl := tk_8 (j := 96) rfl
set_option maxRecDepth 20000 in
theorem tw_946 : Cond.selects RX11 yX11_areSquare yX11_areSquare ∈ lw_tbl := ts_7 (List.mem_of_getElem? (i := 8) rfl)
set_option maxRecDepth 20000 in
theorem tw_947 : Cond.fieldLink RX11 57 "NotAtOnceModel" "squares" "[I" ∈ lw_tbl := tk_6 (j := 124) rfl
set_option maxRecDepth 20000 in
theorem tw_948 : Cond.fieldLink RX11 54 "NotAtOnceModel" "corner" "[I" ∈ lw_tbl := tk_6 (j := 123) rfl
set_option maxRecDepth 20000 in
theorem tw_949 : Cond.fieldLink RX11 363 "NotAtOnceModel" "cornerMany" "I" ∈ lw_tbl := tk_6 (j := 125) rfl
set_option maxRecDepth 20000 in
theorem tw_950 : Cond.code yX11_layCorners cX11_layCorners 5 none ∈ lw_tbl := tk_8 (j := 105) rfl
set_option maxRecDepth 20000 in
theorem tw_951 : Cond.methodLink RX11 366 yX11_layCorners ∈ lw_tbl := tk_8 (j := 102) rfl
set_option maxRecDepth 20000 in
theorem tw_952 : Cond.instanceMethod yX11_layCorners ∈ lw_tbl := tk_8 (j := 104) rfl
set_option maxRecDepth 20000 in
theorem tw_953 : Cond.selects RX11 yX11_layCorners yX11_layCorners ∈ lw_tbl := ts_7 (List.mem_of_getElem? (i := 9) rfl)
set_option maxRecDepth 20000 in
theorem tw_954 : Cond.fieldLink RX11 60 "NotAtOnceModel" "chosen" "[I" ∈ lw_tbl := tk_6 (j := 126) rfl
set_option maxRecDepth 20000 in
theorem tw_955 : Cond.fieldLink RX11 369 "NotAtOnceModel" "colourMany" "I" ∈ lw_tbl := tk_6 (j := 127) rfl
set_option maxRecDepth 20000 in
theorem tw_956 : Cond.fieldLink RX11 372 "NotAtOnceModel" "mostOnes" "I" ∈ lw_tbl := tk_6 (j := 128) rfl
set_option maxRecDepth 20000 in
theorem tw_957 : Cond.code yX11_isSoFar cX11_isSoFar 8 (some .boolean) ∈ lw_tbl := tk_8 (j := 122) rfl
set_option maxRecDepth 20000 in
theorem tw_958 : Cond.methodLink RX11 375 yX11_isSoFar ∈ lw_tbl := tk_8 (j := 119) rfl
set_option maxRecDepth 20000 in
theorem tw_959 : Cond.instanceMethod yX11_isSoFar ∈ lw_tbl := tk_8 (j := 121) rfl
set_option maxRecDepth 20000 in
theorem tw_960 : Cond.selects RX11 yX11_isSoFar yX11_isSoFar ∈ lw_tbl := ts_7 (List.mem_of_getElem? (i := 12) rfl)
set_option maxRecDepth 20000 in
theorem tw_961 : Cond.code yX11_colour cX11_colour 9 none ∈ lw_tbl := tk_8 (j := 118) rfl
set_option maxRecDepth 20000 in
theorem tw_962 : Cond.methodLink RX11 378 yX11_colour ∈ lw_tbl := tk_8 (j := 115) rfl
set_option maxRecDepth 20000 in
theorem tw_963 : Cond.instanceMethod yX11_colour ∈ lw_tbl := tk_8 (j := 117) rfl
set_option maxRecDepth 20000 in
theorem tw_964 : Cond.selects RX11 yX11_colour yX11_colour ∈ lw_tbl := ts_7 (List.mem_of_getElem? (i := 11) rfl)
set_option maxRecDepth 20000 in
theorem tw_965 : Cond.code yX11_allRays cX11_allRays 1 (some .int) ∈ lw_tbl := tk_8 (j := 113) rfl
set_option maxRecDepth 20000 in
theorem tw_966 : Cond.methodLink RX11 381 yX11_allRays ∈ lw_tbl := tk_8 (j := 110) rfl
set_option maxRecDepth 20000 in
theorem tw_967 : Cond.instanceMethod yX11_allRays ∈ lw_tbl := tk_8 (j := 112) rfl
set_option maxRecDepth 20000 in
theorem tw_968 : Cond.selects RX11 yX11_allRays yX11_allRays ∈ lw_tbl := ts_7 (List.mem_of_getElem? (i := 10) rfl)
set_option maxRecDepth 20000 in
theorem tw_969 : Cond.constant RX11 384 (1048576) ∈ lw_tbl := tk_8 (j := 114) rfl
set_option maxRecDepth 20000 in
theorem tw_970 : Cond.code yX11_hasColour cX11_hasColour 2 (some .boolean) ∈ lw_tbl := tk_8 (j := 134) rfl
set_option maxRecDepth 20000 in
theorem tw_971 : Cond.methodLink RX11 385 yX11_hasColour ∈ lw_tbl := tk_8 (j := 131) rfl
set_option maxRecDepth 20000 in
theorem tw_972 : Cond.instanceMethod yX11_hasColour ∈ lw_tbl := tk_8 (j := 133) rfl
set_option maxRecDepth 20000 in
theorem tw_973 : Cond.selects RX11 yX11_hasColour yX11_hasColour ∈ lw_tbl := ts_7 (List.mem_of_getElem? (i := 13) rfl)
set_option maxRecDepth 20000 in
theorem tw_974 : Cond.fieldLink RX11 63 "NotAtOnceModel" "tells" "[I" ∈ lw_tbl := tk_6 (j := 129) rfl
set_option maxRecDepth 20000 in
theorem tw_975 : Cond.fieldLink RX11 66 "NotAtOnceModel" "goes" "[I" ∈ lw_tbl := tk_6 (j := 130) rfl
set_option maxRecDepth 20000 in
theorem tw_976 : Cond.code yX11_tellsAll cX11_tellsAll 8 (some .boolean) ∈ lw_tbl := tk_8 (j := 150) rfl
set_option maxRecDepth 20000 in
theorem tw_977 : Cond.methodLink RX11 388 yX11_tellsAll ∈ lw_tbl := tk_8 (j := 147) rfl
set_option maxRecDepth 20000 in
theorem tw_978 : Cond.instanceMethod yX11_tellsAll ∈ lw_tbl := tk_8 (j := 149) rfl
set_option maxRecDepth 20000 in
theorem tw_979 : Cond.selects RX11 yX11_tellsAll yX11_tellsAll ∈ lw_tbl := ts_7 (List.mem_of_getElem? (i := 15) rfl)
set_option maxRecDepth 20000 in
theorem tw_980 : Cond.code yX11_fewestStates cX11_fewestStates 3 (some .int) ∈ lw_tbl := tk_8 (j := 146) rfl
set_option maxRecDepth 20000 in
theorem tw_981 : Cond.methodLink RX11 392 yX11_fewestStates ∈ lw_tbl := tk_8 (j := 143) rfl
set_option maxRecDepth 20000 in
theorem tw_982 : Cond.instanceMethod yX11_fewestStates ∈ lw_tbl := tk_8 (j := 145) rfl
set_option maxRecDepth 20000 in
theorem tw_983 : Cond.selects RX11 yX11_fewestStates yX11_fewestStates ∈ lw_tbl := ts_7 (List.mem_of_getElem? (i := 14) rfl)
set_option maxRecDepth 20000 in
theorem tw_984 : Cond.fieldLink RX11 32 "NotAtOnceModel" "undone" "[I" ∈ lw_tbl := tk_6 (j := 110) rfl
set_option maxRecDepth 20000 in
theorem tw_985 : Cond.fieldLink RX11 41 "NotAtOnceModel" "undoneActs" "[I" ∈ lw_tbl := tk_6 (j := 113) rfl
set_option maxRecDepth 20000 in
theorem tw_986 : Cond.fieldLink RX11 29 "NotAtOnceModel" "was" "[I" ∈ lw_tbl := tk_6 (j := 109) rfl
set_option maxRecDepth 20000 in
theorem tw_987 : Cond.code yX11_keep cX11_keep 11 none ∈ lw_tbl := tk_8 (j := 168) rfl
set_option maxRecDepth 20000 in
theorem tw_988 : Cond.methodLink RX11 395 yX11_keep ∈ lw_tbl := tk_8 (j := 166) rfl
set_option maxRecDepth 20000 in
theorem tw_989 : Cond.static yX11_keep ∈ lw_tbl := tk_8 (j := 167) rfl
set_option maxRecDepth 20000 in
theorem tw_990 : Cond.code yX11_copy cX11_copy 6 none ∈ lw_tbl := tk_8 (j := 161) rfl
set_option maxRecDepth 20000 in
theorem tw_991 : Cond.methodLink RX11 399 yX11_copy ∈ lw_tbl := tk_8 (j := 159) rfl
set_option maxRecDepth 20000 in
theorem tw_992 : Cond.static yX11_copy ∈ lw_tbl := tk_8 (j := 160) rfl
set_option maxRecDepth 20000 in
theorem tw_993 : Cond.code yX11_did cX11_did 6 (some .boolean) ∈ lw_tbl := tk_8 (j := 165) rfl
set_option maxRecDepth 20000 in
theorem tw_994 : Cond.methodLink RX11 403 yX11_did ∈ lw_tbl := tk_8 (j := 162) rfl
set_option maxRecDepth 20000 in
theorem tw_995 : Cond.instanceMethod yX11_did ∈ lw_tbl := tk_8 (j := 164) rfl
set_option maxRecDepth 20000 in
theorem tw_996 : Cond.selects RX11 yX11_did yX11_did ∈ lw_tbl := ts_8 (List.mem_of_getElem? (i := 0) rfl)
set_option maxRecDepth 20000 in
theorem tw_997 : Cond.code yX11_goesAway cX11_goesAway 4 none ∈ lw_tbl := tk_8 (j := 176) rfl
set_option maxRecDepth 20000 in
theorem tw_998 : Cond.methodLink RX11 407 yX11_goesAway ∈ lw_tbl := tk_8 (j := 173) rfl
set_option maxRecDepth 20000 in
theorem tw_999 : Cond.instanceMethod yX11_goesAway ∈ lw_tbl := tk_8 (j := 175) rfl
