set_option maxRecDepth 20000 in
theorem tw_460 : Cond.code yX11_good cX11_good 1 none ∈ lw_tbl := tk_6 (j := 227) rfl
set_option maxRecDepth 20000 in
theorem tw_461 : Cond.selects RX11 yX11_good yX11_good ∈ lw_tbl := ts_4 (q := (yX11_good, 40)) (List.mem_of_getElem? (i := 5) rfl)
set_option maxRecDepth 20000 in
theorem tw_462 : Cond.instanceMethod yX11_good ∈ lw_tbl := tk_6 (j := 226) rfl
set_option maxRecDepth 20000 in
theorem tw_463 : Cond.methodLink RX11 174 yX11_good ∈ lw_tbl := tk_6 (j := 224) rfl
set_option maxRecDepth 20000 in
theorem tw_464 : Cond.fieldLink RX11 195 "NotAtOnceModel" "marks" "I" ∈ lw_tbl := tk_6 (j := 117) rfl
set_option maxRecDepth 20000 in
theorem tw_465 : Cond.fieldLink RX11 192 "NotAtOnceModel" "redos" "I" ∈ lw_tbl := tk_6 (j := 116) rfl
set_option maxRecDepth 20000 in
theorem tw_466 : Cond.fieldLink RX11 189 "NotAtOnceModel" "undos" "I" ∈ lw_tbl := tk_6 (j := 115) rfl
set_option maxRecDepth 20000 in
theorem tw_467 : Cond.fieldLink RX11 183 "NotAtOnceModel" "hasBook" "Z" ∈ lw_tbl := tk_6 (j := 105) rfl
set_option maxRecDepth 20000 in
theorem tw_468 : Cond.fieldLink RX11 20 "NotAtOnceModel" "\x72" "[I" ∈ lw_tbl := tk_6 (j := 106) rfl
set_option maxRecDepth 20000 in
theorem tw_469 : Cond.fieldLink RX11 88 "NotAtOnceModel" "at" "I" ∈ lw_tbl := tk_6 (j := 95) rfl
set_option maxRecDepth 20000 in
theorem tw_470 : Cond.fieldLink RX11 97 "NotAtOnceModel" "token" "I" ∈ lw_tbl := tk_6 (j := 97) rfl
set_option maxRecDepth 20000 in
theorem tw_471 : Cond.fieldLink RX11 81 "NotAtOnceModel" "end" "I" ∈ lw_tbl := tk_6 (j := 96) rfl
set_option maxRecDepth 20000 in
theorem tw_472 : Cond.fieldLink RX11 78 "NotAtOnceModel" "size" "I" ∈ lw_tbl := tk_6 (j := 94) rfl
set_option maxRecDepth 20000 in
theorem tw_473 : Cond.fieldLink RX11 23 "NotAtOnceModel" "fresh" "[I" ∈ lw_tbl := tk_6 (j := 107) rfl
set_option maxRecDepth 20000 in
theorem tw_474 : Cond.fieldLink RX11 107 "NotAtOnceModel" "failed" "Z" ∈ lw_tbl := tk_6 (j := 104) rfl
set_option maxRecDepth 20000 in
theorem tw_475 : Cond.fieldLink RX11 111 "NotAtOnceModel" "fault" "I" ∈ lw_tbl := tk_6 (j := 100) rfl
set_option maxRecDepth 20000 in
theorem tw_476 : Cond.fieldLink RX11 75 "NotAtOnceModel" "taped" "I" ∈ lw_tbl := tk_6 (j := 93) rfl
set_option maxRecDepth 20000 in
theorem tw_477 : Cond.selects RX11 yX11_readLine yX11_readLine ∈ lw_tbl := ts_4 (q := (yX11_readLine, 40)) (List.mem_of_getElem? (i := 9) rfl)
set_option maxRecDepth 20000 in
theorem tw_478 : Cond.instanceMethod yX11_readLine ∈ lw_tbl := tk_7 (j := 11) rfl
set_option maxRecDepth 20000 in
theorem tw_479 : Cond.methodLink RX11 180 yX11_readLine ∈ lw_tbl := tk_7 (j := 9) rfl
set_option maxRecDepth 20000 in
theorem tw_480 : Cond.code yX11_isDigit cX11_isDigit 1 (some .boolean) ∈ lw_tbl := tk_7 (j := 8) rfl
set_option maxRecDepth 20000 in
theorem tw_481 : Cond.static yX11_isDigit ∈ lw_tbl := tk_7 (j := 7) rfl
set_option maxRecDepth 20000 in
theorem tw_482 : Cond.methodLink RX11 104 yX11_isDigit ∈ lw_tbl := tk_7 (j := 6) rfl
set_option maxRecDepth 20000 in
theorem tw_483 : Cond.code yX11_isSmall cX11_isSmall 1 (some .boolean) ∈ lw_tbl := tk_7 (j := 5) rfl
set_option maxRecDepth 20000 in
theorem tw_484 : Cond.static yX11_isSmall ∈ lw_tbl := tk_7 (j := 4) rfl
set_option maxRecDepth 20000 in
theorem tw_485 : Cond.methodLink RX11 100 yX11_isSmall ∈ lw_tbl := tk_7 (j := 3) rfl
set_option maxRecDepth 20000 in
theorem tw_486 : Cond.fieldLink RX11 7 "NotAtOnceModel" "tape" "[I" ∈ lw_tbl := tk_6 (j := 92) rfl
set_option maxRecDepth 20000 in
theorem tw_487 : Cond.code yX11_see cX11_see 2 (some .int) ∈ lw_tbl := tk_7 (j := 2) rfl
set_option maxRecDepth 20000 in
theorem tw_488 : Cond.selects RX11 yX11_see yX11_see ∈ lw_tbl := ts_4 (q := (yX11_see, 40)) (List.mem_of_getElem? (i := 8) rfl)
set_option maxRecDepth 20000 in
theorem tw_489 : Cond.instanceMethod yX11_see ∈ lw_tbl := tk_7 (j := 1) rfl
set_option maxRecDepth 20000 in
theorem tw_490 : Cond.methodLink RX11 84 yX11_see ∈ lw_tbl := tk_6 (j := 239) rfl
set_option maxRecDepth 20000 in
theorem tw_491 : Cond.fieldLink RX11 17 "NotAtOnceModel" "letters" "[I" ∈ lw_tbl := tk_6 (j := 103) rfl
set_option maxRecDepth 20000 in
theorem tw_492 : Cond.fieldLink RX11 94 "NotAtOnceModel" "whole" "I" ∈ lw_tbl := tk_6 (j := 98) rfl
set_option maxRecDepth 20000 in
theorem tw_493 : Cond.fieldLink RX11 91 "NotAtOnceModel" "nameSize" "I" ∈ lw_tbl := tk_6 (j := 99) rfl
set_option maxRecDepth 20000 in
theorem tw_494 : Cond.code yX11_next cX11_next 4 none ∈ lw_tbl := tk_6 (j := 238) rfl
set_option maxRecDepth 20000 in
theorem tw_495 : Cond.selects RX11 yX11_next yX11_next ∈ lw_tbl := ts_4 (q := (yX11_next, 40)) (List.mem_of_getElem? (i := 7) rfl)
set_option maxRecDepth 20000 in
theorem tw_496 : Cond.instanceMethod yX11_next ∈ lw_tbl := tk_6 (j := 237) rfl
set_option maxRecDepth 20000 in
theorem tw_497 : Cond.methodLink RX11 128 yX11_next ∈ lw_tbl := tk_6 (j := 235) rfl
set_option maxRecDepth 20000 in
theorem tw_498 : Cond.code yX11_no cX11_no 2 (some .int) ∈ lw_tbl := tk_6 (j := 234) rfl
set_option maxRecDepth 20000 in
theorem tw_499 : Cond.selects RX11 yX11_no yX11_no ∈ lw_tbl := ts_4 (q := (yX11_no, 40)) (List.mem_of_getElem? (i := 6) rfl)
set_option maxRecDepth 20000 in
theorem tw_500 : Cond.instanceMethod yX11_no ∈ lw_tbl := tk_6 (j := 233) rfl
set_option maxRecDepth 20000 in
theorem tw_501 : Cond.methodLink RX11 120 yJ0_charAt_5068e ∈ lw_tbl := tk_7 (j := 23) rfl
set_option maxRecDepth 20000 in
theorem tw_502 : Cond.methodLink RX11 114 yJ0_length_8abf5 ∈ lw_tbl := tk_7 (j := 22) rfl
set_option maxRecDepth 20000 in
theorem tw_503 : Cond.code yX11_isWord cX11_isWord 4 (some .boolean) ∈ lw_tbl := tk_7 (j := 21) rfl
set_option maxRecDepth 20000 in
theorem tw_504 : Cond.selects RX11 yX11_isWord yX11_isWord ∈ lw_tbl := ts_4 (q := (yX11_isWord, 40)) (List.mem_of_getElem? (i := 11) rfl)
set_option maxRecDepth 20000 in
theorem tw_505 : Cond.instanceMethod yX11_isWord ∈ lw_tbl := tk_7 (j := 20) rfl
set_option maxRecDepth 20000 in
theorem tw_506 : Cond.methodLink RX11 124 yX11_isWord ∈ lw_tbl := tk_7 (j := 18) rfl
set_option maxRecDepth 20000 in
theorem tw_507 : Cond.code yX11_begins cX11_begins 4 (some .boolean) ∈ lw_tbl := tk_7 (j := 17) rfl
set_option maxRecDepth 20000 in
theorem tw_508 : Cond.selects RX11 yX11_begins yX11_begins ∈ lw_tbl := ts_4 (q := (yX11_begins, 40)) (List.mem_of_getElem? (i := 10) rfl)
set_option maxRecDepth 20000 in
theorem tw_509 : Cond.instanceMethod yX11_begins ∈ lw_tbl := tk_7 (j := 16) rfl
set_option maxRecDepth 20000 in
theorem tw_510 : Cond.methodLink RX11 198 yX11_begins ∈ lw_tbl := tk_7 (j := 14) rfl
set_option maxRecDepth 20000 in
theorem tw_511 : Cond.code yX11_readLine cX11_readLine 1 none ∈ lw_tbl := tk_7 (j := 12) rfl
set_option maxRecDepth 20000 in
theorem tw_512 : Cond.methodLink RX11 131 yX11_takes ∈ lw_tbl := tk_7 (j := 37) rfl
set_option maxRecDepth 20000 in
theorem tw_513 : Cond.code yX11_pass cX11_pass 2 none ∈ lw_tbl := tk_7 (j := 36) rfl
set_option maxRecDepth 20000 in
theorem tw_514 : Cond.selects RX11 yX11_pass yX11_pass ∈ lw_tbl := ts_4 (q := (yX11_pass, 40)) (List.mem_of_getElem? (i := 14) rfl)
set_option maxRecDepth 20000 in
theorem tw_515 : Cond.instanceMethod yX11_pass ∈ lw_tbl := tk_7 (j := 35) rfl
set_option maxRecDepth 20000 in
theorem tw_516 : Cond.methodLink RX11 223 yX11_pass ∈ lw_tbl := tk_7 (j := 33) rfl
set_option maxRecDepth 20000 in
theorem tw_517 : Cond.code yX11_lawLine cX11_lawLine 2 none ∈ lw_tbl := tk_7 (j := 31) rfl
set_option maxRecDepth 20000 in
theorem tw_518 : Cond.selects RX11 yX11_lawLine yX11_lawLine ∈ lw_tbl := ts_4 (q := (yX11_lawLine, 40)) (List.mem_of_getElem? (i := 13) rfl)
set_option maxRecDepth 20000 in
theorem tw_519 : Cond.instanceMethod yX11_lawLine ∈ lw_tbl := tk_7 (j := 30) rfl
set_option maxRecDepth 20000 in
theorem tw_520 : Cond.methodLink RX11 202 yX11_lawLine ∈ lw_tbl := tk_7 (j := 28) rfl
set_option maxRecDepth 20000 in
theorem tw_521 : Cond.fieldLink RX11 13 "NotAtOnceModel" "place" "I" ∈ lw_tbl := tk_6 (j := 101) rfl
set_option maxRecDepth 20000 in
theorem tw_522 : Cond.code yX11_wrong cX11_wrong 3 none ∈ lw_tbl := tk_7 (j := 27) rfl
set_option maxRecDepth 20000 in
theorem tw_523 : Cond.selects RX11 yX11_wrong yX11_wrong ∈ lw_tbl := ts_4 (q := (yX11_wrong, 40)) (List.mem_of_getElem? (i := 12) rfl)
set_option maxRecDepth 20000 in
theorem tw_524 : Cond.instanceMethod yX11_wrong ∈ lw_tbl := tk_7 (j := 26) rfl
set_option maxRecDepth 20000 in
theorem tw_525 : Cond.methodLink RX11 134 yX11_wrong ∈ lw_tbl := tk_7 (j := 24) rfl
set_option maxRecDepth 20000 in
theorem tw_526 : Cond.methodLink RX11 209 yX11_setLine ∈ lw_tbl := tk_7 (j := 67) rfl
set_option maxRecDepth 20000 in
theorem tw_527 : Cond.code yX11_comma cX11_comma 1 (some .boolean) ∈ lw_tbl := tk_7 (j := 66) rfl
set_option maxRecDepth 20000 in
theorem tw_528 : Cond.selects RX11 yX11_comma yX11_comma ∈ lw_tbl := ts_5 (q := (yX11_comma, 40)) (List.mem_of_getElem? (i := 4) rfl)
set_option maxRecDepth 20000 in
theorem tw_529 : Cond.instanceMethod yX11_comma ∈ lw_tbl := tk_7 (j := 65) rfl
set_option maxRecDepth 20000 in
theorem tw_530 : Cond.methodLink RX11 158 yX11_comma ∈ lw_tbl := tk_7 (j := 63) rfl
set_option maxRecDepth 20000 in
theorem tw_531 : Cond.code yX11_find cX11_find 4 (some .int) ∈ lw_tbl := tk_7 (j := 62) rfl
set_option maxRecDepth 20000 in
theorem tw_532 : Cond.selects RX11 yX11_find yX11_find ∈ lw_tbl := ts_5 (q := (yX11_find, 40)) (List.mem_of_getElem? (i := 3) rfl)
set_option maxRecDepth 20000 in
theorem tw_533 : Cond.instanceMethod yX11_find ∈ lw_tbl := tk_7 (j := 61) rfl
set_option maxRecDepth 20000 in
theorem tw_534 : Cond.methodLink RX11 155 yX11_find ∈ lw_tbl := tk_7 (j := 59) rfl
set_option maxRecDepth 20000 in
theorem tw_535 : Cond.code yX11_mustName cX11_mustName 2 none ∈ lw_tbl := tk_7 (j := 53) rfl
set_option maxRecDepth 20000 in
theorem tw_536 : Cond.selects RX11 yX11_mustName yX11_mustName ∈ lw_tbl := ts_5 (q := (yX11_mustName, 40)) (List.mem_of_getElem? (i := 2) rfl)
set_option maxRecDepth 20000 in
theorem tw_537 : Cond.instanceMethod yX11_mustName ∈ lw_tbl := tk_7 (j := 52) rfl
set_option maxRecDepth 20000 in
theorem tw_538 : Cond.methodLink RX11 152 yX11_mustName ∈ lw_tbl := tk_7 (j := 50) rfl
set_option maxRecDepth 20000 in
theorem tw_539 : Cond.code yX11_newNames cX11_newNames 7 none ∈ lw_tbl := tk_7 (j := 49) rfl
set_option maxRecDepth 20000 in
theorem tw_540 : Cond.selects RX11 yX11_newNames yX11_newNames ∈ lw_tbl := ts_5 (q := (yX11_newNames, 40)) (List.mem_of_getElem? (i := 1) rfl)
set_option maxRecDepth 20000 in
theorem tw_541 : Cond.instanceMethod yX11_newNames ∈ lw_tbl := tk_7 (j := 48) rfl
set_option maxRecDepth 20000 in
theorem tw_542 : Cond.methodLink RX11 205 yX11_newNames ∈ lw_tbl := tk_7 (j := 46) rfl
set_option maxRecDepth 20000 in
theorem tw_543 : Cond.code yX11_number cX11_number 4 (some .int) ∈ lw_tbl := tk_7 (j := 44) rfl
set_option maxRecDepth 20000 in
theorem tw_544 : Cond.selects RX11 yX11_number yX11_number ∈ lw_tbl := ts_5 (q := (yX11_number, 40)) (List.mem_of_getElem? (i := 0) rfl)
set_option maxRecDepth 20000 in
theorem tw_545 : Cond.instanceMethod yX11_number ∈ lw_tbl := tk_7 (j := 43) rfl
set_option maxRecDepth 20000 in
theorem tw_546 : Cond.methodLink RX11 227 yX11_number ∈ lw_tbl := tk_7 (j := 41) rfl
set_option maxRecDepth 20000 in
theorem tw_547 : Cond.code yX11_takes cX11_takes 2 (some .boolean) ∈ lw_tbl := tk_7 (j := 40) rfl
set_option maxRecDepth 20000 in
theorem tw_548 : Cond.selects RX11 yX11_takes yX11_takes ∈ lw_tbl := ts_4 (q := (yX11_takes, 40)) (List.mem_of_getElem? (i := 15) rfl)
set_option maxRecDepth 20000 in
theorem tw_549 : Cond.instanceMethod yX11_takes ∈ lw_tbl := tk_7 (j := 39) rfl
set_option maxRecDepth 20000 in
theorem tw_550 : Cond.instanceMethod yX11_rayLine ∈ lw_tbl := tk_7 (j := 96) rfl
set_option maxRecDepth 20000 in
theorem tw_551 : Cond.methodLink RX11 215 yX11_rayLine ∈ lw_tbl := tk_7 (j := 94) rfl
set_option maxRecDepth 20000 in
theorem tw_552 : Cond.code yX11_lineLine cX11_lineLine 5 none ∈ lw_tbl := tk_7 (j := 90) rfl
set_option maxRecDepth 20000 in
theorem tw_553 : Cond.selects RX11 yX11_lineLine yX11_lineLine ∈ lw_tbl := ts_5 (q := (yX11_lineLine, 40)) (List.mem_of_getElem? (i := 9) rfl)
set_option maxRecDepth 20000 in
theorem tw_554 : Cond.instanceMethod yX11_lineLine ∈ lw_tbl := tk_7 (j := 89) rfl
set_option maxRecDepth 20000 in
theorem tw_555 : Cond.methodLink RX11 212 yX11_lineLine ∈ lw_tbl := tk_7 (j := 87) rfl
set_option maxRecDepth 20000 in
theorem tw_556 : Cond.code yX11_mustComma cX11_mustComma 1 none ∈ lw_tbl := tk_7 (j := 86) rfl
set_option maxRecDepth 20000 in
theorem tw_557 : Cond.selects RX11 yX11_mustComma yX11_mustComma ∈ lw_tbl := ts_5 (q := (yX11_mustComma, 40)) (List.mem_of_getElem? (i := 8) rfl)
set_option maxRecDepth 20000 in
theorem tw_558 : Cond.instanceMethod yX11_mustComma ∈ lw_tbl := tk_7 (j := 85) rfl
set_option maxRecDepth 20000 in
theorem tw_559 : Cond.methodLink RX11 235 yX11_mustComma ∈ lw_tbl := tk_7 (j := 83) rfl
set_option maxRecDepth 20000 in
theorem tw_560 : Cond.code yX11_has cX11_has 2 (some .boolean) ∈ lw_tbl := tk_7 (j := 81) rfl
set_option maxRecDepth 20000 in
theorem tw_561 : Cond.static yX11_has ∈ lw_tbl := tk_7 (j := 80) rfl
set_option maxRecDepth 20000 in
theorem tw_562 : Cond.methodLink RX11 162 yX11_has ∈ lw_tbl := tk_7 (j := 79) rfl
set_option maxRecDepth 20000 in
theorem tw_563 : Cond.code yX11_named cX11_named 5 (some .int) ∈ lw_tbl := tk_7 (j := 78) rfl
set_option maxRecDepth 20000 in
theorem tw_564 : Cond.selects RX11 yX11_named yX11_named ∈ lw_tbl := ts_5 (q := (yX11_named, 40)) (List.mem_of_getElem? (i := 7) rfl)
set_option maxRecDepth 20000 in
theorem tw_565 : Cond.instanceMethod yX11_named ∈ lw_tbl := tk_7 (j := 77) rfl
set_option maxRecDepth 20000 in
theorem tw_566 : Cond.methodLink RX11 166 yX11_named ∈ lw_tbl := tk_7 (j := 75) rfl
set_option maxRecDepth 20000 in
theorem tw_567 : Cond.code yX11_passed cX11_passed 4 (some .int) ∈ lw_tbl := tk_7 (j := 74) rfl
set_option maxRecDepth 20000 in
theorem tw_568 : Cond.selects RX11 yX11_passed yX11_passed ∈ lw_tbl := ts_5 (q := (yX11_passed, 40)) (List.mem_of_getElem? (i := 6) rfl)
set_option maxRecDepth 20000 in
theorem tw_569 : Cond.instanceMethod yX11_passed ∈ lw_tbl := tk_7 (j := 73) rfl
set_option maxRecDepth 20000 in
theorem tw_570 : Cond.methodLink RX11 231 yX11_passed ∈ lw_tbl := tk_7 (j := 71) rfl
set_option maxRecDepth 20000 in
theorem tw_571 : Cond.code yX11_setLine cX11_setLine 8 none ∈ lw_tbl := tk_7 (j := 70) rfl
set_option maxRecDepth 20000 in
theorem tw_572 : Cond.selects RX11 yX11_setLine yX11_setLine ∈ lw_tbl := ts_5 (q := (yX11_setLine, 40)) (List.mem_of_getElem? (i := 5) rfl)
set_option maxRecDepth 20000 in
theorem tw_573 : Cond.instanceMethod yX11_setLine ∈ lw_tbl := tk_7 (j := 69) rfl
set_option maxRecDepth 20000 in
theorem tw_574 : Cond.fieldLink RX11 26 "NotAtOnceModel" "coins" "[I" ∈ lw_tbl := tk_6 (j := 108) rfl
set_option maxRecDepth 20000 in
theorem tw_575 : Cond.code yX11_noCoins cX11_noCoins 2 none ∈ lw_tbl := tk_7 (j := 105) rfl
set_option maxRecDepth 20000 in
theorem tw_576 : Cond.selects RX11 yX11_noCoins yX11_noCoins ∈ lw_tbl := ts_5 (q := (yX11_noCoins, 40)) (List.mem_of_getElem? (i := 12) rfl)
set_option maxRecDepth 20000 in
theorem tw_577 : Cond.instanceMethod yX11_noCoins ∈ lw_tbl := tk_7 (j := 104) rfl
set_option maxRecDepth 20000 in
theorem tw_578 : Cond.methodLink RX11 186 yX11_noCoins ∈ lw_tbl := tk_7 (j := 102) rfl
set_option maxRecDepth 20000 in
theorem tw_579 : Cond.code yX11_runLine cX11_runLine 5 none ∈ lw_tbl := tk_7 (j := 101) rfl
set_option maxRecDepth 20000 in
theorem tw_580 : Cond.selects RX11 yX11_runLine yX11_runLine ∈ lw_tbl := ts_5 (q := (yX11_runLine, 40)) (List.mem_of_getElem? (i := 11) rfl)
set_option maxRecDepth 20000 in
theorem tw_581 : Cond.instanceMethod yX11_runLine ∈ lw_tbl := tk_7 (j := 100) rfl
set_option maxRecDepth 20000 in
theorem tw_582 : Cond.methodLink RX11 218 yX11_runLine ∈ lw_tbl := tk_7 (j := 98) rfl
set_option maxRecDepth 20000 in
theorem tw_583 : Cond.code yX11_rayLine cX11_rayLine 7 none ∈ lw_tbl := tk_7 (j := 97) rfl
set_option maxRecDepth 20000 in
theorem tw_584 : Cond.selects RX11 yX11_rayLine yX11_rayLine ∈ lw_tbl := ts_5 (q := (yX11_rayLine, 40)) (List.mem_of_getElem? (i := 10) rfl)
set_option maxRecDepth 20000 in
theorem tw_585 : Cond.selects RX11 yX11_book yX11_book ∈ lw_tbl := tk_6 (j := 222) rfl
set_option maxRecDepth 20000 in
theorem tw_586 : Cond.instanceMethod yX11_book ∈ lw_tbl := tk_6 (j := 221) rfl
set_option maxRecDepth 20000 in
theorem tw_587 : Cond.methodLink RL 27 yX11_book ∈ lw_tbl := tk_6 (j := 220) rfl
set_option maxRecDepth 20000 in
theorem tw_588 : Cond.code yX10_fault cX10_fault 1 (some .int) ∈ lw_tbl := tk_3 (j := 220) rfl
set_option maxRecDepth 20000 in
theorem tw_589 : Cond.fieldLink RX10 100 "NotAtOnce" "lastFault" "I" ∈ lw_tbl := tk_2 (j := 196) rfl
set_option maxRecDepth 20000 in
theorem tw_590 : Cond.selects RX10 yX10_fault yX10_fault ∈ lw_tbl := tk_3 (j := 219) rfl
set_option maxRecDepth 20000 in
theorem tw_591 : Cond.instanceMethod yX10_fault ∈ lw_tbl := tk_3 (j := 218) rfl
set_option maxRecDepth 20000 in
theorem tw_592 : Cond.methodLink RL 28 yX10_fault ∈ lw_tbl := tk_3 (j := 217) rfl
set_option maxRecDepth 20000 in
theorem tw_593 : Cond.code yX11_fault cX11_fault 1 (some .int) ∈ lw_tbl := tk_7 (j := 109) rfl
set_option maxRecDepth 20000 in
theorem tw_594 : Cond.fieldLink RX11 111 "NotAtOnceModel" "fault" "I" ∈ lw_tbl := tk_6 (j := 100) rfl
set_option maxRecDepth 20000 in
theorem tw_595 : Cond.selects RX11 yX11_fault yX11_fault ∈ lw_tbl := tk_7 (j := 108) rfl
set_option maxRecDepth 20000 in
theorem tw_596 : Cond.instanceMethod yX11_fault ∈ lw_tbl := tk_7 (j := 107) rfl
set_option maxRecDepth 20000 in
theorem tw_597 : Cond.methodLink RL 32 yX11_fault ∈ lw_tbl := tk_7 (j := 106) rfl
set_option maxRecDepth 20000 in
theorem tw_598 : Cond.code yX10_where cX10_where 1 (some .int) ∈ lw_tbl := tk_3 (j := 224) rfl
set_option maxRecDepth 20000 in
theorem tw_599 : Cond.fieldLink RX10 106 "NotAtOnce" "faultPlace" "I" ∈ lw_tbl := tk_2 (j := 197) rfl
set_option maxRecDepth 20000 in
theorem tw_600 : Cond.fieldLink RX10 128 "NotAtOnce" "refusal" "I" ∈ lw_tbl := tk_2 (j := 195) rfl
set_option maxRecDepth 20000 in
theorem tw_601 : Cond.selects RX10 yX10_where yX10_where ∈ lw_tbl := tk_3 (j := 223) rfl
set_option maxRecDepth 20000 in
theorem tw_602 : Cond.instanceMethod yX10_where ∈ lw_tbl := tk_3 (j := 222) rfl
set_option maxRecDepth 20000 in
theorem tw_603 : Cond.methodLink RL 33 yX10_where ∈ lw_tbl := tk_3 (j := 221) rfl
set_option maxRecDepth 20000 in
theorem tw_604 : Cond.code yX11_where cX11_where 1 (some .int) ∈ lw_tbl := tk_7 (j := 113) rfl
set_option maxRecDepth 20000 in
theorem tw_605 : Cond.fieldLink RX11 72 "NotAtOnceModel" "trouble" "I" ∈ lw_tbl := tk_6 (j := 102) rfl
set_option maxRecDepth 20000 in
theorem tw_606 : Cond.selects RX11 yX11_where yX11_where ∈ lw_tbl := tk_7 (j := 112) rfl
set_option maxRecDepth 20000 in
theorem tw_607 : Cond.instanceMethod yX11_where ∈ lw_tbl := tk_7 (j := 111) rfl
set_option maxRecDepth 20000 in
theorem tw_608 : Cond.methodLink RL 36 yX11_where ∈ lw_tbl := tk_7 (j := 110) rfl
set_option maxRecDepth 20000 in
theorem tw_609 : Cond.code yX10_share cX10_share 2 (some .int) ∈ lw_tbl := tk_3 (j := 228) rfl
set_option maxRecDepth 20000 in
theorem tw_610 : Cond.fieldLink RX0 56 "NotAtOnce$Blend" "columns" "I" ∈ lw_tbl := tk_2 (j := 10) rfl
set_option maxRecDepth 20000 in
theorem tw_611 : Cond.fieldLink RX0 44 "NotAtOnce$Table" "count" "I" ∈ lw_tbl := tk_1 (j := 179) rfl
set_option maxRecDepth 20000 in
theorem tw_612 : Cond.code yX0_findShare cX0_findShare 1 none ∈ lw_tbl := tk_3 (j := 236) rfl
set_option maxRecDepth 20000 in
theorem tw_613 : Cond.selects RX0 yX0_findShare yX0_findShare ∈ lw_tbl := tk_3 (j := 235) rfl
set_option maxRecDepth 20000 in
theorem tw_614 : Cond.instanceMethod yX0_findShare ∈ lw_tbl := tk_3 (j := 234) rfl
set_option maxRecDepth 20000 in
theorem tw_615 : Cond.methodLink RX10 135 yX0_findShare ∈ lw_tbl := tk_3 (j := 233) rfl
set_option maxRecDepth 20000 in
theorem tw_616 : Cond.fieldLink RX10 215 "NotAtOnce$Table" "law" "I" ∈ lw_tbl := tk_1 (j := 176) rfl
set_option maxRecDepth 20000 in
theorem tw_617 : Cond.code yX10_noBook cX10_noBook 1 (some .boolean) ∈ lw_tbl := tk_3 (j := 232) rfl
set_option maxRecDepth 20000 in
theorem tw_618 : Cond.selects RX10 yX10_noBook yX10_noBook ∈ lw_tbl := ts_2 (q := (yX10_noBook, 14)) (List.mem_of_getElem? (i := 12) rfl)
set_option maxRecDepth 20000 in
theorem tw_619 : Cond.instanceMethod yX10_noBook ∈ lw_tbl := tk_3 (j := 231) rfl
set_option maxRecDepth 20000 in
theorem tw_620 : Cond.methodLink RX10 131 yX10_noBook ∈ lw_tbl := tk_3 (j := 229) rfl
set_option maxRecDepth 20000 in
theorem tw_621 : Cond.code yX0_nameColumns cX0_nameColumns 2 none ∈ lw_tbl := tk_4 (j := 11) rfl
set_option maxRecDepth 20000 in
theorem tw_622 : Cond.selects RX0 yX0_nameColumns yX0_nameColumns ∈ lw_tbl := ts_2 (q := (yX0_nameColumns, 9)) (List.mem_of_getElem? (i := 14) rfl)
set_option maxRecDepth 20000 in
theorem tw_623 : Cond.instanceMethod yX0_nameColumns ∈ lw_tbl := tk_4 (j := 10) rfl
set_option maxRecDepth 20000 in
theorem tw_624 : Cond.methodLink RX0 70 yX0_nameColumns ∈ lw_tbl := tk_4 (j := 8) rfl
set_option maxRecDepth 20000 in
theorem tw_625 : Cond.constantLong RX0 76 (-1) ∈ lw_tbl := tk_4 (j := 29) rfl
set_option maxRecDepth 20000 in
theorem tw_626 : Cond.code yX0_solve cX0_solve 2 none ∈ lw_tbl := tk_4 (j := 7) rfl
set_option maxRecDepth 20000 in
theorem tw_627 : Cond.selects RX0 yX0_solve yX0_solve ∈ lw_tbl := ts_2 (q := (yX0_solve, 9)) (List.mem_of_getElem? (i := 13) rfl)
set_option maxRecDepth 20000 in
theorem tw_628 : Cond.instanceMethod yX0_solve ∈ lw_tbl := tk_4 (j := 6) rfl
set_option maxRecDepth 20000 in
theorem tw_629 : Cond.methodLink RX0 53 yX0_solve ∈ lw_tbl := tk_4 (j := 4) rfl
set_option maxRecDepth 20000 in
theorem tw_630 : Cond.code yX2_commonPart cX2_commonPart 11 (some .long) ∈ lw_tbl := tk_4 (j := 3) rfl
set_option maxRecDepth 20000 in
theorem tw_631 : Cond.static yX2_commonPart ∈ lw_tbl := tk_4 (j := 2) rfl
set_option maxRecDepth 20000 in
theorem tw_632 : Cond.methodLink RX2 13 yX2_commonPart ∈ lw_tbl := tk_4 (j := 1) rfl
set_option maxRecDepth 20000 in
theorem tw_633 : Cond.fieldLink RX2 17 "NotAtOnce$Fraction" "upper" "J" ∈ lw_tbl := tk_1 (j := 229) rfl
set_option maxRecDepth 20000 in
theorem tw_634 : Cond.code yX2_set cX2_set 7 none ∈ lw_tbl := tk_4 (j := 0) rfl
set_option maxRecDepth 20000 in
theorem tw_635 : Cond.selects RX2 yX2_set yX2_set ∈ lw_tbl := tk_3 (j := 239) rfl
set_option maxRecDepth 20000 in
theorem tw_636 : Cond.instanceMethod yX2_set ∈ lw_tbl := tk_3 (j := 238) rfl
set_option maxRecDepth 20000 in
theorem tw_637 : Cond.methodLink RX0 47 yX2_set ∈ lw_tbl := tk_3 (j := 237) rfl
set_option maxRecDepth 20000 in
theorem tw_638 : Cond.fieldLink RX0 59 "NotAtOnce$Table" "law" "I" ∈ lw_tbl := tk_1 (j := 174) rfl
set_option maxRecDepth 20000 in
theorem tw_639 : Cond.fieldLink RX0 89 "NotAtOnce$Table" "times" "[I" ∈ lw_tbl := tk_1 (j := 192) rfl
set_option maxRecDepth 20000 in
theorem tw_640 : Cond.fieldLink RX0 86 "NotAtOnce$Blend" "rows" "I" ∈ lw_tbl := tk_2 (j := 9) rfl
set_option maxRecDepth 20000 in
theorem tw_641 : Cond.code yX0_fillRows cX0_fillRows 3 none ∈ lw_tbl := tk_4 (j := 27) rfl
set_option maxRecDepth 20000 in
theorem tw_642 : Cond.selects RX0 yX0_fillRows yX0_fillRows ∈ lw_tbl := ts_2 (q := (yX0_fillRows, 9)) (List.mem_of_getElem? (i := 15) rfl)
set_option maxRecDepth 20000 in
theorem tw_643 : Cond.instanceMethod yX0_fillRows ∈ lw_tbl := tk_4 (j := 26) rfl
set_option maxRecDepth 20000 in
theorem tw_644 : Cond.methodLink RX0 73 yX0_fillRows ∈ lw_tbl := tk_4 (j := 24) rfl
set_option maxRecDepth 20000 in
theorem tw_645 : Cond.code yX8_cellOf cX8_cellOf 4 (some .int) ∈ lw_tbl := tk_4 (j := 23) rfl
set_option maxRecDepth 20000 in
theorem tw_646 : Cond.selects RX8 yX8_cellOf yX8_cellOf ∈ lw_tbl := tk_4 (j := 22) rfl
set_option maxRecDepth 20000 in
theorem tw_647 : Cond.instanceMethod yX8_cellOf ∈ lw_tbl := tk_4 (j := 21) rfl
set_option maxRecDepth 20000 in
theorem tw_648 : Cond.methodLink RX8 64 yX8_cellOf ∈ lw_tbl := tk_4 (j := 20) rfl
set_option maxRecDepth 20000 in
theorem tw_649 : Cond.code yX8_missed cX8_missed 4 (some .int) ∈ lw_tbl := tk_4 (j := 19) rfl
set_option maxRecDepth 20000 in
theorem tw_650 : Cond.selects RX8 yX8_missed yX8_missed ∈ lw_tbl := tk_4 (j := 18) rfl
set_option maxRecDepth 20000 in
theorem tw_651 : Cond.instanceMethod yX8_missed ∈ lw_tbl := tk_4 (j := 17) rfl
set_option maxRecDepth 20000 in
theorem tw_652 : Cond.methodLink RX0 82 yX8_missed ∈ lw_tbl := tk_4 (j := 16) rfl
set_option maxRecDepth 20000 in
theorem tw_653 : Cond.code yX8_hiddenAnswers cX8_hiddenAnswers 1 (some .int) ∈ lw_tbl := tk_4 (j := 15) rfl
set_option maxRecDepth 20000 in
theorem tw_654 : Cond.selects RX8 yX8_hiddenAnswers yX8_hiddenAnswers ∈ lw_tbl := tk_4 (j := 14) rfl
set_option maxRecDepth 20000 in
theorem tw_655 : Cond.instanceMethod yX8_hiddenAnswers ∈ lw_tbl := tk_4 (j := 13) rfl
set_option maxRecDepth 20000 in
theorem tw_656 : Cond.methodLink RX0 78 yX8_hiddenAnswers ∈ lw_tbl := tk_4 (j := 12) rfl
set_option maxRecDepth 20000 in
theorem tw_657 : Cond.methodLink RX0 113 yX0_clearFrom ∈ lw_tbl := tk_4 (j := 51) rfl
set_option maxRecDepth 20000 in
theorem tw_658 : Cond.code yX0_pivot cX0_pivot 7 none ∈ lw_tbl := tk_4 (j := 50) rfl
set_option maxRecDepth 20000 in
theorem tw_659 : Cond.selects RX0 yX0_pivot yX0_pivot ∈ lw_tbl := ts_3 (q := (yX0_pivot, 9)) (List.mem_of_getElem? (i := 4) rfl)
set_option maxRecDepth 20000 in
theorem tw_660 : Cond.instanceMethod yX0_pivot ∈ lw_tbl := tk_4 (j := 49) rfl
set_option maxRecDepth 20000 in
theorem tw_661 : Cond.methodLink RX0 107 yX0_pivot ∈ lw_tbl := tk_4 (j := 47) rfl
set_option maxRecDepth 20000 in
theorem tw_662 : Cond.code yX0_comesFirst cX0_comesFirst 8 (some .boolean) ∈ lw_tbl := tk_4 (j := 46) rfl
set_option maxRecDepth 20000 in
theorem tw_663 : Cond.selects RX0 yX0_comesFirst yX0_comesFirst ∈ lw_tbl := ts_3 (q := (yX0_comesFirst, 9)) (List.mem_of_getElem? (i := 3) rfl)
set_option maxRecDepth 20000 in
theorem tw_664 : Cond.instanceMethod yX0_comesFirst ∈ lw_tbl := tk_4 (j := 45) rfl
set_option maxRecDepth 20000 in
theorem tw_665 : Cond.methodLink RX0 110 yX0_comesFirst ∈ lw_tbl := tk_4 (j := 43) rfl
set_option maxRecDepth 20000 in
theorem tw_666 : Cond.code yX0_leaving cX0_leaving 4 (some .int) ∈ lw_tbl := tk_4 (j := 42) rfl
set_option maxRecDepth 20000 in
theorem tw_667 : Cond.selects RX0 yX0_leaving yX0_leaving ∈ lw_tbl := ts_3 (q := (yX0_leaving, 9)) (List.mem_of_getElem? (i := 2) rfl)
set_option maxRecDepth 20000 in
theorem tw_668 : Cond.instanceMethod yX0_leaving ∈ lw_tbl := tk_4 (j := 41) rfl
set_option maxRecDepth 20000 in
theorem tw_669 : Cond.methodLink RX0 104 yX0_leaving ∈ lw_tbl := tk_4 (j := 39) rfl
set_option maxRecDepth 20000 in
theorem tw_670 : Cond.code yX0_entering cX0_entering 5 (some .int) ∈ lw_tbl := tk_4 (j := 38) rfl
set_option maxRecDepth 20000 in
theorem tw_671 : Cond.selects RX0 yX0_entering yX0_entering ∈ lw_tbl := ts_3 (q := (yX0_entering, 9)) (List.mem_of_getElem? (i := 1) rfl)
set_option maxRecDepth 20000 in
theorem tw_672 : Cond.instanceMethod yX0_entering ∈ lw_tbl := tk_4 (j := 37) rfl
set_option maxRecDepth 20000 in
theorem tw_673 : Cond.methodLink RX0 101 yX0_entering ∈ lw_tbl := tk_4 (j := 35) rfl
set_option maxRecDepth 20000 in
theorem tw_674 : Cond.constant RX0 100 (1000000) ∈ lw_tbl := tk_4 (j := 34) rfl
set_option maxRecDepth 20000 in
theorem tw_675 : Cond.code yX0_climb cX0_climb 5 none ∈ lw_tbl := tk_4 (j := 33) rfl
set_option maxRecDepth 20000 in
theorem tw_676 : Cond.selects RX0 yX0_climb yX0_climb ∈ lw_tbl := ts_3 (q := (yX0_climb, 9)) (List.mem_of_getElem? (i := 0) rfl)
set_option maxRecDepth 20000 in
theorem tw_677 : Cond.instanceMethod yX0_climb ∈ lw_tbl := tk_4 (j := 32) rfl
set_option maxRecDepth 20000 in
theorem tw_678 : Cond.methodLink RX0 66 yX0_climb ∈ lw_tbl := tk_4 (j := 30) rfl
set_option maxRecDepth 20000 in
theorem tw_679 : Cond.methodLink RX0 92 yX8_cellOf ∈ lw_tbl := tk_4 (j := 28) rfl
set_option maxRecDepth 20000 in
theorem tw_680 : Cond.code yX2_part cX2_part 2 (some .int) ∈ lw_tbl := tk_4 (j := 58) rfl
set_option maxRecDepth 20000 in
theorem tw_681 : Cond.selects RX2 yX2_part yX2_part ∈ lw_tbl := tk_4 (j := 57) rfl
set_option maxRecDepth 20000 in
theorem tw_682 : Cond.instanceMethod yX2_part ∈ lw_tbl := tk_4 (j := 56) rfl
set_option maxRecDepth 20000 in
theorem tw_683 : Cond.methodLink RX10 138 yX2_part ∈ lw_tbl := tk_4 (j := 55) rfl
set_option maxRecDepth 20000 in
theorem tw_684 : Cond.code yX0_clearFrom cX0_clearFrom 11 none ∈ lw_tbl := tk_4 (j := 54) rfl
set_option maxRecDepth 20000 in
theorem tw_685 : Cond.selects RX0 yX0_clearFrom yX0_clearFrom ∈ lw_tbl := ts_3 (q := (yX0_clearFrom, 9)) (List.mem_of_getElem? (i := 5) rfl)
set_option maxRecDepth 20000 in
theorem tw_686 : Cond.instanceMethod yX0_clearFrom ∈ lw_tbl := tk_4 (j := 53) rfl
set_option maxRecDepth 20000 in
theorem tw_687 : Cond.selects RX10 yX10_share yX10_share ∈ lw_tbl := tk_3 (j := 227) rfl
set_option maxRecDepth 20000 in
theorem tw_688 : Cond.instanceMethod yX10_share ∈ lw_tbl := tk_3 (j := 226) rfl
set_option maxRecDepth 20000 in
theorem tw_689 : Cond.methodLink RL 37 yX10_share ∈ lw_tbl := tk_3 (j := 225) rfl
set_option maxRecDepth 20000 in
theorem tw_690 : Cond.code yX11_share cX11_share 2 (some .int) ∈ lw_tbl := tk_7 (j := 117) rfl
set_option maxRecDepth 20000 in
theorem tw_691 : Cond.selects RX11 yX11_layTab yX11_layTab ∈ lw_tbl := ts_5 (q := (yX11_layTab, 40)) (List.mem_of_getElem? (i := 14) rfl)
set_option maxRecDepth 20000 in
theorem tw_692 : Cond.instanceMethod yX11_layTab ∈ lw_tbl := tk_7 (j := 124) rfl
set_option maxRecDepth 20000 in
theorem tw_693 : Cond.methodLink RX11 282 yX11_layTab ∈ lw_tbl := tk_7 (j := 122) rfl
set_option maxRecDepth 20000 in
theorem tw_694 : Cond.code yX11_isMixed cX11_isMixed 1 (some .boolean) ∈ lw_tbl := tk_7 (j := 121) rfl
set_option maxRecDepth 20000 in
theorem tw_695 : Cond.selects RX11 yX11_isMixed yX11_isMixed ∈ lw_tbl := ts_5 (q := (yX11_isMixed, 40)) (List.mem_of_getElem? (i := 13) rfl)
set_option maxRecDepth 20000 in
theorem tw_696 : Cond.instanceMethod yX11_isMixed ∈ lw_tbl := tk_7 (j := 120) rfl
set_option maxRecDepth 20000 in
theorem tw_697 : Cond.methodLink RX11 289 yX11_isMixed ∈ lw_tbl := tk_7 (j := 118) rfl
set_option maxRecDepth 20000 in
theorem tw_698 : Cond.fieldLink RX11 268 "NotAtOnceModel" "below" "J" ∈ lw_tbl := tk_6 (j := 120) rfl
set_option maxRecDepth 20000 in
theorem tw_699 : Cond.fieldLink RX11 257 "NotAtOnceModel" "wide" "I" ∈ lw_tbl := tk_6 (j := 122) rfl
set_option maxRecDepth 20000 in
theorem tw_700 : Cond.fieldLink RX11 254 "NotAtOnceModel" "rows" "I" ∈ lw_tbl := tk_6 (j := 121) rfl
set_option maxRecDepth 20000 in
theorem tw_701 : Cond.fieldLink RX11 47 "NotAtOnceModel" "tab" "[J" ∈ lw_tbl := tk_6 (j := 118) rfl
set_option maxRecDepth 20000 in
theorem tw_702 : Cond.selects RX11 yX11_bounding yX11_bounding ∈ lw_tbl := ts_6 (q := (yX11_bounding, 40)) (List.mem_of_getElem? (i := 2) rfl)
set_option maxRecDepth 20000 in
theorem tw_703 : Cond.instanceMethod yX11_bounding ∈ lw_tbl := tk_7 (j := 147) rfl
set_option maxRecDepth 20000 in
theorem tw_704 : Cond.methodLink RX11 272 yX11_bounding ∈ lw_tbl := tk_7 (j := 145) rfl
set_option maxRecDepth 20000 in
theorem tw_705 : Cond.code yX11_goesUp cX11_goesUp 5 none ∈ lw_tbl := tk_7 (j := 144) rfl
set_option maxRecDepth 20000 in
theorem tw_706 : Cond.selects RX11 yX11_goesUp yX11_goesUp ∈ lw_tbl := ts_6 (q := (yX11_goesUp, 40)) (List.mem_of_getElem? (i := 1) rfl)
set_option maxRecDepth 20000 in
theorem tw_707 : Cond.instanceMethod yX11_goesUp ∈ lw_tbl := tk_7 (j := 143) rfl
set_option maxRecDepth 20000 in
theorem tw_708 : Cond.methodLink RX11 285 yX11_goesUp ∈ lw_tbl := tk_7 (j := 141) rfl
set_option maxRecDepth 20000 in
theorem tw_709 : Cond.code yX11_fitted cX11_fitted 4 (some .int) ∈ lw_tbl := tk_7 (j := 139) rfl
set_option maxRecDepth 20000 in
theorem tw_710 : Cond.selects RX11 yX11_fitted yX11_fitted ∈ lw_tbl := ts_6 (q := (yX11_fitted, 40)) (List.mem_of_getElem? (i := 0) rfl)
set_option maxRecDepth 20000 in
theorem tw_711 : Cond.instanceMethod yX11_fitted ∈ lw_tbl := tk_7 (j := 138) rfl
set_option maxRecDepth 20000 in
theorem tw_712 : Cond.methodLink RX11 263 yX11_fitted ∈ lw_tbl := tk_7 (j := 136) rfl
set_option maxRecDepth 20000 in
theorem tw_713 : Cond.code yX11_cell cX11_cell 2 (some .int) ∈ lw_tbl := tk_7 (j := 135) rfl
set_option maxRecDepth 20000 in
theorem tw_714 : Cond.static yX11_cell ∈ lw_tbl := tk_7 (j := 134) rfl
set_option maxRecDepth 20000 in
theorem tw_715 : Cond.methodLink RX11 260 yX11_cell ∈ lw_tbl := tk_7 (j := 133) rfl
set_option maxRecDepth 20000 in
theorem tw_716 : Cond.code yX11_outcomes cX11_outcomes 2 (some .int) ∈ lw_tbl := tk_7 (j := 132) rfl
set_option maxRecDepth 20000 in
theorem tw_717 : Cond.static yX11_outcomes ∈ lw_tbl := tk_7 (j := 131) rfl
set_option maxRecDepth 20000 in
theorem tw_718 : Cond.methodLink RX11 247 yX11_outcomes ∈ lw_tbl := tk_7 (j := 130) rfl
set_option maxRecDepth 20000 in
theorem tw_719 : Cond.code yX11_hiddenMany cX11_hiddenMany 1 (some .int) ∈ lw_tbl := tk_7 (j := 129) rfl
set_option maxRecDepth 20000 in
theorem tw_720 : Cond.selects RX11 yX11_hiddenMany yX11_hiddenMany ∈ lw_tbl := ts_5 (q := (yX11_hiddenMany, 40)) (List.mem_of_getElem? (i := 15) rfl)
set_option maxRecDepth 20000 in
theorem tw_721 : Cond.instanceMethod yX11_hiddenMany ∈ lw_tbl := tk_7 (j := 128) rfl
set_option maxRecDepth 20000 in
theorem tw_722 : Cond.methodLink RX11 251 yX11_hiddenMany ∈ lw_tbl := tk_7 (j := 126) rfl
set_option maxRecDepth 20000 in
theorem tw_723 : Cond.constantLong RX11 266 (-1) ∈ lw_tbl := tk_7 (j := 140) rfl
set_option maxRecDepth 20000 in
theorem tw_724 : Cond.fieldLink RX11 51 "NotAtOnceModel" "basis" "[I" ∈ lw_tbl := tk_6 (j := 119) rfl
set_option maxRecDepth 20000 in
theorem tw_725 : Cond.code yX11_layTab cX11_layTab 6 none ∈ lw_tbl := tk_7 (j := 125) rfl
set_option maxRecDepth 20000 in
theorem tw_726 : Cond.code yX11_common cX11_common 10 (some .long) ∈ lw_tbl := tk_7 (j := 158) rfl
set_option maxRecDepth 20000 in
theorem tw_727 : Cond.static yX11_common ∈ lw_tbl := tk_7 (j := 157) rfl
set_option maxRecDepth 20000 in
theorem tw_728 : Cond.methodLink RX11 278 yX11_common ∈ lw_tbl := tk_7 (j := 156) rfl
set_option maxRecDepth 20000 in
theorem tw_729 : Cond.code yX11_lowest cX11_lowest 7 (some .int) ∈ lw_tbl := tk_7 (j := 155) rfl
set_option maxRecDepth 20000 in
theorem tw_730 : Cond.static yX11_lowest ∈ lw_tbl := tk_7 (j := 154) rfl
set_option maxRecDepth 20000 in
theorem tw_731 : Cond.methodLink RX11 292 yX11_lowest ∈ lw_tbl := tk_7 (j := 153) rfl
set_option maxRecDepth 20000 in
theorem tw_732 : Cond.code yX11_turnOver cX11_turnOver 9 none ∈ lw_tbl := tk_7 (j := 152) rfl
set_option maxRecDepth 20000 in
theorem tw_733 : Cond.selects RX11 yX11_turnOver yX11_turnOver ∈ lw_tbl := ts_6 (q := (yX11_turnOver, 40)) (List.mem_of_getElem? (i := 3) rfl)
set_option maxRecDepth 20000 in
theorem tw_734 : Cond.instanceMethod yX11_turnOver ∈ lw_tbl := tk_7 (j := 151) rfl
set_option maxRecDepth 20000 in
theorem tw_735 : Cond.methodLink RX11 275 yX11_turnOver ∈ lw_tbl := tk_7 (j := 149) rfl
set_option maxRecDepth 20000 in
theorem tw_736 : Cond.code yX11_bounding cX11_bounding 12 (some .int) ∈ lw_tbl := tk_7 (j := 148) rfl
set_option maxRecDepth 20000 in
theorem tw_737 : Cond.selects RX11 yX11_share yX11_share ∈ lw_tbl := tk_7 (j := 116) rfl
set_option maxRecDepth 20000 in
theorem tw_738 : Cond.instanceMethod yX11_share ∈ lw_tbl := tk_7 (j := 115) rfl
set_option maxRecDepth 20000 in
theorem tw_739 : Cond.methodLink RL 41 yX11_share ∈ lw_tbl := tk_7 (j := 114) rfl
set_option maxRecDepth 20000 in
theorem tw_740 : Cond.code yX10_together cX10_together 7 (some .int) ∈ lw_tbl := tk_4 (j := 62) rfl
set_option maxRecDepth 20000 in
theorem tw_741 : Cond.code yX0_isMixed cX0_isMixed 1 (some .boolean) ∈ lw_tbl := tk_4 (j := 73) rfl
set_option maxRecDepth 20000 in
theorem tw_742 : Cond.selects RX0 yX0_isMixed yX0_isMixed ∈ lw_tbl := tk_4 (j := 72) rfl
set_option maxRecDepth 20000 in
theorem tw_743 : Cond.instanceMethod yX0_isMixed ∈ lw_tbl := tk_4 (j := 71) rfl
set_option maxRecDepth 20000 in
theorem tw_744 : Cond.methodLink RX10 149 yX0_isMixed ∈ lw_tbl := tk_4 (j := 70) rfl
set_option maxRecDepth 20000 in
theorem tw_745 : Cond.code yX10_isBit cX10_isBit 1 (some .boolean) ∈ lw_tbl := tk_4 (j := 69) rfl
set_option maxRecDepth 20000 in
theorem tw_746 : Cond.static yX10_isBit ∈ lw_tbl := tk_4 (j := 68) rfl
set_option maxRecDepth 20000 in
theorem tw_747 : Cond.methodLink RX10 146 yX10_isBit ∈ lw_tbl := tk_4 (j := 67) rfl
set_option maxRecDepth 20000 in
theorem tw_748 : Cond.code yX8_hasLook cX8_hasLook 2 (some .boolean) ∈ lw_tbl := tk_4 (j := 66) rfl
set_option maxRecDepth 20000 in
theorem tw_749 : Cond.selects RX8 yX8_hasLook yX8_hasLook ∈ lw_tbl := tk_4 (j := 65) rfl
set_option maxRecDepth 20000 in
theorem tw_750 : Cond.instanceMethod yX8_hasLook ∈ lw_tbl := tk_4 (j := 64) rfl
set_option maxRecDepth 20000 in
theorem tw_751 : Cond.methodLink RX10 142 yX8_hasLook ∈ lw_tbl := tk_4 (j := 63) rfl
set_option maxRecDepth 20000 in
theorem tw_752 : Cond.code yX0_findTogether cX0_findTogether 5 none ∈ lw_tbl := tk_4 (j := 77) rfl
set_option maxRecDepth 20000 in
theorem tw_753 : Cond.selects RX0 yX0_findTogether yX0_findTogether ∈ lw_tbl := tk_4 (j := 76) rfl
set_option maxRecDepth 20000 in
theorem tw_754 : Cond.instanceMethod yX0_findTogether ∈ lw_tbl := tk_4 (j := 75) rfl
set_option maxRecDepth 20000 in
theorem tw_755 : Cond.methodLink RX10 152 yX0_findTogether ∈ lw_tbl := tk_4 (j := 74) rfl
set_option maxRecDepth 20000 in
theorem tw_756 : Cond.code yX0_isMeant cX0_isMeant 3 (some .boolean) ∈ lw_tbl := tk_4 (j := 84) rfl
set_option maxRecDepth 20000 in
theorem tw_757 : Cond.static yX0_isMeant ∈ lw_tbl := tk_4 (j := 83) rfl
set_option maxRecDepth 20000 in
theorem tw_758 : Cond.methodLink RX0 96 yX0_isMeant ∈ lw_tbl := tk_4 (j := 82) rfl
set_option maxRecDepth 20000 in
theorem tw_759 : Cond.code yX0_aim cX0_aim 8 none ∈ lw_tbl := tk_4 (j := 81) rfl
set_option maxRecDepth 20000 in
theorem tw_760 : Cond.selects RX0 yX0_aim yX0_aim ∈ lw_tbl := ts_3 (q := (yX0_aim, 9)) (List.mem_of_getElem? (i := 6) rfl)
set_option maxRecDepth 20000 in
theorem tw_761 : Cond.instanceMethod yX0_aim ∈ lw_tbl := tk_4 (j := 80) rfl
set_option maxRecDepth 20000 in
theorem tw_762 : Cond.methodLink RX0 62 yX0_aim ∈ lw_tbl := tk_4 (j := 78) rfl
set_option maxRecDepth 20000 in
theorem tw_763 : Cond.selects RX10 yX10_together yX10_together ∈ lw_tbl := tk_4 (j := 61) rfl
set_option maxRecDepth 20000 in
theorem tw_764 : Cond.instanceMethod yX10_together ∈ lw_tbl := tk_4 (j := 60) rfl
set_option maxRecDepth 20000 in
theorem tw_765 : Cond.methodLink RL 42 yX10_together ∈ lw_tbl := tk_4 (j := 59) rfl
set_option maxRecDepth 20000 in
theorem tw_766 : Cond.code yX11_together cX11_together 13 (some .int) ∈ lw_tbl := tk_7 (j := 162) rfl
set_option maxRecDepth 20000 in
theorem tw_767 : Cond.static yX11_isBit ∈ lw_tbl := tk_7 (j := 168) rfl
set_option maxRecDepth 20000 in
theorem tw_768 : Cond.methodLink RX11 299 yX11_isBit ∈ lw_tbl := tk_7 (j := 167) rfl
set_option maxRecDepth 20000 in
theorem tw_769 : Cond.code yX11_isLook cX11_isLook 2 (some .boolean) ∈ lw_tbl := tk_7 (j := 166) rfl
set_option maxRecDepth 20000 in
theorem tw_770 : Cond.selects RX11 yX11_isLook yX11_isLook ∈ lw_tbl := ts_6 (q := (yX11_isLook, 40)) (List.mem_of_getElem? (i := 4) rfl)
set_option maxRecDepth 20000 in
theorem tw_771 : Cond.instanceMethod yX11_isLook ∈ lw_tbl := tk_7 (j := 165) rfl
set_option maxRecDepth 20000 in
theorem tw_772 : Cond.methodLink RX11 296 yX11_isLook ∈ lw_tbl := tk_7 (j := 163) rfl
set_option maxRecDepth 20000 in
theorem tw_773 : Cond.code yX11_isBit cX11_isBit 1 (some .boolean) ∈ lw_tbl := tk_7 (j := 169) rfl
set_option maxRecDepth 20000 in
theorem tw_774 : Cond.selects RX11 yX11_together yX11_together ∈ lw_tbl := tk_7 (j := 161) rfl
set_option maxRecDepth 20000 in
theorem tw_775 : Cond.instanceMethod yX11_together ∈ lw_tbl := tk_7 (j := 160) rfl
set_option maxRecDepth 20000 in
theorem tw_776 : Cond.methodLink RL 46 yX11_together ∈ lw_tbl := tk_7 (j := 159) rfl
set_option maxRecDepth 20000 in
theorem tw_777 : Cond.code yX10_extend cX10_extend 3 (some .int) ∈ lw_tbl := tk_4 (j := 88) rfl
set_option maxRecDepth 20000 in
theorem tw_778 : Cond.instanceMethod yX8_extending ∈ lw_tbl := tk_4 (j := 102) rfl
set_option maxRecDepth 20000 in
theorem tw_779 : Cond.methodLink RX10 160 yX8_extending ∈ lw_tbl := tk_4 (j := 101) rfl
set_option maxRecDepth 20000 in
theorem tw_780 : Cond.code yX8_outcomes cX8_outcomes 2 (some .int) ∈ lw_tbl := tk_4 (j := 100) rfl
set_option maxRecDepth 20000 in
theorem tw_781 : Cond.selects RX8 yX8_outcomes yX8_outcomes ∈ lw_tbl := tk_4 (j := 99) rfl
set_option maxRecDepth 20000 in
theorem tw_782 : Cond.instanceMethod yX8_outcomes ∈ lw_tbl := tk_4 (j := 98) rfl
set_option maxRecDepth 20000 in
theorem tw_783 : Cond.methodLink RX8 60 yX8_outcomes ∈ lw_tbl := tk_4 (j := 97) rfl
set_option maxRecDepth 20000 in
theorem tw_784 : Cond.code yX8_hasSet cX8_hasSet 2 (some .boolean) ∈ lw_tbl := tk_4 (j := 96) rfl
set_option maxRecDepth 20000 in
theorem tw_785 : Cond.selects RX8 yX8_hasSet yX8_hasSet ∈ lw_tbl := tk_4 (j := 95) rfl
set_option maxRecDepth 20000 in
theorem tw_786 : Cond.instanceMethod yX8_hasSet ∈ lw_tbl := tk_4 (j := 94) rfl
set_option maxRecDepth 20000 in
theorem tw_787 : Cond.methodLink RX8 56 yX8_hasSet ∈ lw_tbl := tk_4 (j := 93) rfl
set_option maxRecDepth 20000 in
theorem tw_788 : Cond.code yX8_hasOutcome cX8_hasOutcome 3 (some .boolean) ∈ lw_tbl := tk_4 (j := 92) rfl
set_option maxRecDepth 20000 in
theorem tw_789 : Cond.selects RX8 yX8_hasOutcome yX8_hasOutcome ∈ lw_tbl := tk_4 (j := 91) rfl
set_option maxRecDepth 20000 in
theorem tw_790 : Cond.instanceMethod yX8_hasOutcome ∈ lw_tbl := tk_4 (j := 90) rfl
set_option maxRecDepth 20000 in
theorem tw_791 : Cond.methodLink RX10 156 yX8_hasOutcome ∈ lw_tbl := tk_4 (j := 89) rfl
set_option maxRecDepth 20000 in
theorem tw_792 : Cond.methodLink RX8 72 yX8_missed ∈ lw_tbl := tk_4 (j := 106) rfl
set_option maxRecDepth 20000 in
theorem tw_793 : Cond.methodLink RX8 68 yX8_hiddenAnswers ∈ lw_tbl := tk_4 (j := 105) rfl
set_option maxRecDepth 20000 in
theorem tw_794 : Cond.code yX8_extending cX8_extending 5 (some .int) ∈ lw_tbl := tk_4 (j := 104) rfl
set_option maxRecDepth 20000 in
theorem tw_795 : Cond.selects RX8 yX8_extending yX8_extending ∈ lw_tbl := tk_4 (j := 103) rfl
set_option maxRecDepth 20000 in
theorem tw_796 : Cond.selects RX10 yX10_extend yX10_extend ∈ lw_tbl := tk_4 (j := 87) rfl
set_option maxRecDepth 20000 in
theorem tw_797 : Cond.instanceMethod yX10_extend ∈ lw_tbl := tk_4 (j := 86) rfl
set_option maxRecDepth 20000 in
theorem tw_798 : Cond.methodLink RL 47 yX10_extend ∈ lw_tbl := tk_4 (j := 85) rfl
set_option maxRecDepth 20000 in
theorem tw_799 : Cond.code yX11_extend cX11_extend 3 (some .int) ∈ lw_tbl := tk_7 (j := 173) rfl
set_option maxRecDepth 20000 in
theorem tw_800 : Cond.methodLink RX11 308 yX11_doesExtend ∈ lw_tbl := tk_7 (j := 182) rfl
set_option maxRecDepth 20000 in
theorem tw_801 : Cond.code yX11_isSet cX11_isSet 2 (some .boolean) ∈ lw_tbl := tk_7 (j := 181) rfl
set_option maxRecDepth 20000 in
theorem tw_802 : Cond.selects RX11 yX11_isSet yX11_isSet ∈ lw_tbl := ts_6 (q := (yX11_isSet, 40)) (List.mem_of_getElem? (i := 6) rfl)
set_option maxRecDepth 20000 in
theorem tw_803 : Cond.instanceMethod yX11_isSet ∈ lw_tbl := tk_7 (j := 180) rfl
set_option maxRecDepth 20000 in
theorem tw_804 : Cond.methodLink RX11 244 yX11_isSet ∈ lw_tbl := tk_7 (j := 178) rfl
set_option maxRecDepth 20000 in
theorem tw_805 : Cond.code yX11_isOutcome cX11_isOutcome 3 (some .boolean) ∈ lw_tbl := tk_7 (j := 177) rfl
set_option maxRecDepth 20000 in
theorem tw_806 : Cond.selects RX11 yX11_isOutcome yX11_isOutcome ∈ lw_tbl := ts_6 (q := (yX11_isOutcome, 40)) (List.mem_of_getElem? (i := 5) rfl)
set_option maxRecDepth 20000 in
theorem tw_807 : Cond.instanceMethod yX11_isOutcome ∈ lw_tbl := tk_7 (j := 176) rfl
set_option maxRecDepth 20000 in
theorem tw_808 : Cond.methodLink RX11 305 yX11_isOutcome ∈ lw_tbl := tk_7 (j := 174) rfl
set_option maxRecDepth 20000 in
theorem tw_809 : Cond.code yX11_fitsAll cX11_fitsAll 5 (some .boolean) ∈ lw_tbl := tk_7 (j := 189) rfl
set_option maxRecDepth 20000 in
theorem tw_810 : Cond.selects RX11 yX11_fitsAll yX11_fitsAll ∈ lw_tbl := ts_6 (q := (yX11_fitsAll, 40)) (List.mem_of_getElem? (i := 8) rfl)
set_option maxRecDepth 20000 in
theorem tw_811 : Cond.instanceMethod yX11_fitsAll ∈ lw_tbl := tk_7 (j := 188) rfl
set_option maxRecDepth 20000 in
theorem tw_812 : Cond.methodLink RX11 302 yX11_fitsAll ∈ lw_tbl := tk_7 (j := 186) rfl
set_option maxRecDepth 20000 in
theorem tw_813 : Cond.code yX11_doesExtend cX11_doesExtend 5 (some .boolean) ∈ lw_tbl := tk_7 (j := 185) rfl
set_option maxRecDepth 20000 in
theorem tw_814 : Cond.selects RX11 yX11_doesExtend yX11_doesExtend ∈ lw_tbl := ts_6 (q := (yX11_doesExtend, 40)) (List.mem_of_getElem? (i := 7) rfl)
set_option maxRecDepth 20000 in
theorem tw_815 : Cond.instanceMethod yX11_doesExtend ∈ lw_tbl := tk_7 (j := 184) rfl
set_option maxRecDepth 20000 in
theorem tw_816 : Cond.selects RX11 yX11_extend yX11_extend ∈ lw_tbl := tk_7 (j := 172) rfl
set_option maxRecDepth 20000 in
theorem tw_817 : Cond.instanceMethod yX11_extend ∈ lw_tbl := tk_7 (j := 171) rfl
set_option maxRecDepth 20000 in
theorem tw_818 : Cond.methodLink RL 51 yX11_extend ∈ lw_tbl := tk_7 (j := 170) rfl
set_option maxRecDepth 20000 in
theorem tw_819 : Cond.code yX10_level cX10_level 3 (some .int) ∈ lw_tbl := tk_4 (j := 110) rfl
set_option maxRecDepth 20000 in
theorem tw_820 : Cond.code yX8_possible cX8_possible 3 (some .int) ∈ lw_tbl := tk_4 (j := 114) rfl
set_option maxRecDepth 20000 in
theorem tw_821 : Cond.selects RX8 yX8_possible yX8_possible ∈ lw_tbl := tk_4 (j := 113) rfl
set_option maxRecDepth 20000 in
theorem tw_822 : Cond.instanceMethod yX8_possible ∈ lw_tbl := tk_4 (j := 112) rfl
set_option maxRecDepth 20000 in
theorem tw_823 : Cond.methodLink RX10 164 yX8_possible ∈ lw_tbl := tk_4 (j := 111) rfl
set_option maxRecDepth 20000 in
theorem tw_824 : Cond.selects RX10 yX10_level yX10_level ∈ lw_tbl := tk_4 (j := 109) rfl
set_option maxRecDepth 20000 in
theorem tw_825 : Cond.instanceMethod yX10_level ∈ lw_tbl := tk_4 (j := 108) rfl
set_option maxRecDepth 20000 in
theorem tw_826 : Cond.methodLink RL 52 yX10_level ∈ lw_tbl := tk_4 (j := 107) rfl
set_option maxRecDepth 20000 in
theorem tw_827 : Cond.code yX11_level cX11_level 5 (some .int) ∈ lw_tbl := tk_7 (j := 193) rfl
set_option maxRecDepth 20000 in
theorem tw_828 : Cond.selects RX11 yX11_level yX11_level ∈ lw_tbl := tk_7 (j := 192) rfl
set_option maxRecDepth 20000 in
theorem tw_829 : Cond.instanceMethod yX11_level ∈ lw_tbl := tk_7 (j := 191) rfl
set_option maxRecDepth 20000 in
theorem tw_830 : Cond.methodLink RL 55 yX11_level ∈ lw_tbl := tk_7 (j := 190) rfl
set_option maxRecDepth 20000 in
theorem tw_831 : Cond.code yX10_hidden cX10_hidden 1 (some .int) ∈ lw_tbl := tk_4 (j := 118) rfl
set_option maxRecDepth 20000 in
theorem tw_832 : Cond.code yX8_fitting cX8_fitting 3 (some .int) ∈ lw_tbl := tk_4 (j := 122) rfl
set_option maxRecDepth 20000 in
theorem tw_833 : Cond.selects RX8 yX8_fitting yX8_fitting ∈ lw_tbl := tk_4 (j := 121) rfl
set_option maxRecDepth 20000 in
theorem tw_834 : Cond.instanceMethod yX8_fitting ∈ lw_tbl := tk_4 (j := 120) rfl
set_option maxRecDepth 20000 in
theorem tw_835 : Cond.methodLink RX10 167 yX8_fitting ∈ lw_tbl := tk_4 (j := 119) rfl
set_option maxRecDepth 20000 in
theorem tw_836 : Cond.selects RX10 yX10_hidden yX10_hidden ∈ lw_tbl := tk_4 (j := 117) rfl
set_option maxRecDepth 20000 in
theorem tw_837 : Cond.instanceMethod yX10_hidden ∈ lw_tbl := tk_4 (j := 116) rfl
set_option maxRecDepth 20000 in
theorem tw_838 : Cond.methodLink RL 56 yX10_hidden ∈ lw_tbl := tk_4 (j := 115) rfl
set_option maxRecDepth 20000 in
theorem tw_839 : Cond.code yX11_hidden cX11_hidden 1 (some .int) ∈ lw_tbl := tk_7 (j := 197) rfl
set_option maxRecDepth 20000 in
theorem tw_840 : Cond.code yX11_fittingAnswer cX11_fittingAnswer 4 (some .int) ∈ lw_tbl := tk_7 (j := 201) rfl
set_option maxRecDepth 20000 in
theorem tw_841 : Cond.selects RX11 yX11_fittingAnswer yX11_fittingAnswer ∈ lw_tbl := ts_6 (q := (yX11_fittingAnswer, 40)) (List.mem_of_getElem? (i := 9) rfl)
set_option maxRecDepth 20000 in
theorem tw_842 : Cond.instanceMethod yX11_fittingAnswer ∈ lw_tbl := tk_7 (j := 200) rfl
set_option maxRecDepth 20000 in
theorem tw_843 : Cond.methodLink RX11 311 yX11_fittingAnswer ∈ lw_tbl := tk_7 (j := 198) rfl
set_option maxRecDepth 20000 in
theorem tw_844 : Cond.selects RX11 yX11_hidden yX11_hidden ∈ lw_tbl := tk_7 (j := 196) rfl
set_option maxRecDepth 20000 in
theorem tw_845 : Cond.instanceMethod yX11_hidden ∈ lw_tbl := tk_7 (j := 195) rfl
set_option maxRecDepth 20000 in
theorem tw_846 : Cond.methodLink RL 59 yX11_hidden ∈ lw_tbl := tk_7 (j := 194) rfl
set_option maxRecDepth 20000 in
theorem tw_847 : Cond.code yX10_answer cX10_answer 3 (some .int) ∈ lw_tbl := tk_4 (j := 126) rfl
set_option maxRecDepth 20000 in
theorem tw_848 : Cond.code yX8_fittingAt cX8_fittingAt 4 (some .int) ∈ lw_tbl := tk_4 (j := 130) rfl
set_option maxRecDepth 20000 in
theorem tw_849 : Cond.selects RX8 yX8_fittingAt yX8_fittingAt ∈ lw_tbl := tk_4 (j := 129) rfl
set_option maxRecDepth 20000 in
theorem tw_850 : Cond.instanceMethod yX8_fittingAt ∈ lw_tbl := tk_4 (j := 128) rfl
set_option maxRecDepth 20000 in
theorem tw_851 : Cond.methodLink RX10 170 yX8_fittingAt ∈ lw_tbl := tk_4 (j := 127) rfl
set_option maxRecDepth 20000 in
theorem tw_852 : Cond.selects RX10 yX10_answer yX10_answer ∈ lw_tbl := tk_4 (j := 125) rfl
set_option maxRecDepth 20000 in
theorem tw_853 : Cond.instanceMethod yX10_answer ∈ lw_tbl := tk_4 (j := 124) rfl
set_option maxRecDepth 20000 in
theorem tw_854 : Cond.methodLink RL 60 yX10_answer ∈ lw_tbl := tk_4 (j := 123) rfl
set_option maxRecDepth 20000 in
theorem tw_855 : Cond.code yX11_answer cX11_answer 3 (some .int) ∈ lw_tbl := tk_7 (j := 205) rfl
set_option maxRecDepth 20000 in
theorem tw_856 : Cond.selects RX11 yX11_answer yX11_answer ∈ lw_tbl := tk_7 (j := 204) rfl
set_option maxRecDepth 20000 in
theorem tw_857 : Cond.instanceMethod yX11_answer ∈ lw_tbl := tk_7 (j := 203) rfl
set_option maxRecDepth 20000 in
theorem tw_858 : Cond.methodLink RL 63 yX11_answer ∈ lw_tbl := tk_7 (j := 202) rfl
set_option maxRecDepth 20000 in
theorem tw_859 : Cond.code yX10_disturbed cX10_disturbed 1 (some .int) ∈ lw_tbl := tk_4 (j := 134) rfl
set_option maxRecDepth 20000 in
theorem tw_860 : Cond.code yX8_onesOf cX8_onesOf 4 (some .int) ∈ lw_tbl := tk_4 (j := 142) rfl
set_option maxRecDepth 20000 in
theorem tw_861 : Cond.selects RX8 yX8_onesOf yX8_onesOf ∈ lw_tbl := ts_3 (q := (yX8_onesOf, 8)) (List.mem_of_getElem? (i := 7) rfl)
set_option maxRecDepth 20000 in
theorem tw_862 : Cond.instanceMethod yX8_onesOf ∈ lw_tbl := tk_4 (j := 141) rfl
set_option maxRecDepth 20000 in
theorem tw_863 : Cond.methodLink RX8 75 yX8_onesOf ∈ lw_tbl := tk_4 (j := 139) rfl
set_option maxRecDepth 20000 in
theorem tw_864 : Cond.code yX8_firstDisturbed cX8_firstDisturbed 5 (some .int) ∈ lw_tbl := tk_4 (j := 138) rfl
set_option maxRecDepth 20000 in
theorem tw_865 : Cond.selects RX8 yX8_firstDisturbed yX8_firstDisturbed ∈ lw_tbl := tk_4 (j := 137) rfl
set_option maxRecDepth 20000 in
theorem tw_866 : Cond.instanceMethod yX8_firstDisturbed ∈ lw_tbl := tk_4 (j := 136) rfl
set_option maxRecDepth 20000 in
theorem tw_867 : Cond.methodLink RX10 173 yX8_firstDisturbed ∈ lw_tbl := tk_4 (j := 135) rfl
set_option maxRecDepth 20000 in
theorem tw_868 : Cond.selects RX10 yX10_disturbed yX10_disturbed ∈ lw_tbl := tk_4 (j := 133) rfl
set_option maxRecDepth 20000 in
theorem tw_869 : Cond.instanceMethod yX10_disturbed ∈ lw_tbl := tk_4 (j := 132) rfl
set_option maxRecDepth 20000 in
theorem tw_870 : Cond.methodLink RL 64 yX10_disturbed ∈ lw_tbl := tk_4 (j := 131) rfl
set_option maxRecDepth 20000 in
theorem tw_871 : Cond.code yX11_disturbed cX11_disturbed 5 (some .int) ∈ lw_tbl := tk_7 (j := 209) rfl
set_option maxRecDepth 20000 in
theorem tw_872 : Cond.code yX11_onesOf cX11_onesOf 4 (some .int) ∈ lw_tbl := tk_7 (j := 213) rfl
set_option maxRecDepth 20000 in
theorem tw_873 : Cond.selects RX11 yX11_onesOf yX11_onesOf ∈ lw_tbl := ts_6 (q := (yX11_onesOf, 40)) (List.mem_of_getElem? (i := 10) rfl)
set_option maxRecDepth 20000 in
theorem tw_874 : Cond.instanceMethod yX11_onesOf ∈ lw_tbl := tk_7 (j := 212) rfl
set_option maxRecDepth 20000 in
theorem tw_875 : Cond.methodLink RX11 314 yX11_onesOf ∈ lw_tbl := tk_7 (j := 210) rfl
set_option maxRecDepth 20000 in
theorem tw_876 : Cond.code yX11_no cX11_no 2 (some .int) ∈ lw_tbl := tk_6 (j := 234) rfl
set_option maxRecDepth 20000 in
theorem tw_877 : Cond.selects RX11 yX11_no yX11_no ∈ lw_tbl := ts_4 (q := (yX11_no, 40)) (List.mem_of_getElem? (i := 6) rfl)
set_option maxRecDepth 20000 in
theorem tw_878 : Cond.instanceMethod yX11_no ∈ lw_tbl := tk_6 (j := 233) rfl
set_option maxRecDepth 20000 in
theorem tw_879 : Cond.methodLink RX11 177 yX11_no ∈ lw_tbl := tk_6 (j := 231) rfl
set_option maxRecDepth 20000 in
theorem tw_880 : Cond.code yX11_good cX11_good 1 none ∈ lw_tbl := tk_6 (j := 227) rfl
set_option maxRecDepth 20000 in
theorem tw_881 : Cond.initialized RX11 ∈ lw_tbl := tk_1 (j := 12) rfl
set_option maxRecDepth 20000 in
theorem tw_882 : Cond.selects RX11 yX11_good yX11_good ∈ lw_tbl := ts_4 (q := (yX11_good, 40)) (List.mem_of_getElem? (i := 5) rfl)
set_option maxRecDepth 20000 in
theorem tw_883 : Cond.instanceMethod yX11_good ∈ lw_tbl := tk_6 (j := 226) rfl
set_option maxRecDepth 20000 in
theorem tw_884 : Cond.methodLink RX11 174 yX11_good ∈ lw_tbl := tk_6 (j := 224) rfl
set_option maxRecDepth 20000 in
theorem tw_885 : Cond.fieldLink RX11 183 "NotAtOnceModel" "hasBook" "Z" ∈ lw_tbl := tk_6 (j := 105) rfl
set_option maxRecDepth 20000 in
theorem tw_886 : Cond.selects RX11 yX11_disturbed yX11_disturbed ∈ lw_tbl := tk_7 (j := 208) rfl
set_option maxRecDepth 20000 in
theorem tw_887 : Cond.instanceMethod yX11_disturbed ∈ lw_tbl := tk_7 (j := 207) rfl
set_option maxRecDepth 20000 in
theorem tw_888 : Cond.methodLink RL 67 yX11_disturbed ∈ lw_tbl := tk_7 (j := 206) rfl
set_option maxRecDepth 20000 in
theorem tw_889 : Cond.code yX10_same cX10_same 2 (some .int) ∈ lw_tbl := tk_4 (j := 146) rfl
set_option maxRecDepth 20000 in
theorem tw_890 : Cond.code yX10_told cX10_told 2 (some .int) ∈ lw_tbl := tk_3 (j := 215) rfl
set_option maxRecDepth 20000 in
theorem tw_891 : Cond.selects RX10 yX10_told yX10_told ∈ lw_tbl := ts_2 (q := (yX10_told, 14)) (List.mem_of_getElem? (i := 11) rfl)
set_option maxRecDepth 20000 in
theorem tw_892 : Cond.instanceMethod yX10_told ∈ lw_tbl := tk_3 (j := 214) rfl
set_option maxRecDepth 20000 in
theorem tw_893 : Cond.methodLink RX10 125 yX10_told ∈ lw_tbl := tk_3 (j := 212) rfl
set_option maxRecDepth 20000 in
theorem tw_894 : Cond.fieldLink RX8 18 "NotAtOnce$Table" "times" "[I" ∈ lw_tbl := tk_1 (j := 191) rfl
set_option maxRecDepth 20000 in
theorem tw_895 : Cond.code yX8_alike cX8_alike 3 (some .int) ∈ lw_tbl := tk_4 (j := 154) rfl
set_option maxRecDepth 20000 in
theorem tw_896 : Cond.selects RX8 yX8_alike yX8_alike ∈ lw_tbl := tk_4 (j := 153) rfl
set_option maxRecDepth 20000 in
theorem tw_897 : Cond.instanceMethod yX8_alike ∈ lw_tbl := tk_4 (j := 152) rfl
set_option maxRecDepth 20000 in
theorem tw_898 : Cond.methodLink RX10 179 yX8_alike ∈ lw_tbl := tk_4 (j := 151) rfl
set_option maxRecDepth 20000 in
theorem tw_899 : Cond.fieldLink RX8 38 "NotAtOnce$Table" "count" "I" ∈ lw_tbl := tk_1 (j := 181) rfl
set_option maxRecDepth 20000 in
theorem tw_900 : Cond.code yX8_hasSet cX8_hasSet 2 (some .boolean) ∈ lw_tbl := tk_4 (j := 96) rfl
set_option maxRecDepth 20000 in
theorem tw_901 : Cond.selects RX8 yX8_hasSet yX8_hasSet ∈ lw_tbl := tk_4 (j := 95) rfl
set_option maxRecDepth 20000 in
theorem tw_902 : Cond.instanceMethod yX8_hasSet ∈ lw_tbl := tk_4 (j := 94) rfl
set_option maxRecDepth 20000 in
theorem tw_903 : Cond.methodLink RX8 56 yX8_hasSet ∈ lw_tbl := tk_4 (j := 93) rfl
set_option maxRecDepth 20000 in
theorem tw_904 : Cond.fieldLink RX8 15 "NotAtOnce$Table" "second" "[I" ∈ lw_tbl := tk_1 (j := 188) rfl
set_option maxRecDepth 20000 in
theorem tw_905 : Cond.code yX8_hasPair cX8_hasPair 2 (some .boolean) ∈ lw_tbl := tk_4 (j := 150) rfl
set_option maxRecDepth 20000 in
theorem tw_906 : Cond.initialized RX8 ∈ lw_tbl := tk_1 (j := 4) rfl
set_option maxRecDepth 20000 in
theorem tw_907 : Cond.selects RX8 yX8_hasPair yX8_hasPair ∈ lw_tbl := tk_4 (j := 149) rfl
set_option maxRecDepth 20000 in
theorem tw_908 : Cond.instanceMethod yX8_hasPair ∈ lw_tbl := tk_4 (j := 148) rfl
set_option maxRecDepth 20000 in
theorem tw_909 : Cond.methodLink RX10 176 yX8_hasPair ∈ lw_tbl := tk_4 (j := 147) rfl
set_option maxRecDepth 20000 in
theorem tw_910 : Cond.fieldLink RX10 25 "NotAtOnce" "table" "LNotAtOnce$Table;" ∈ lw_tbl := tk_2 (j := 186) rfl
set_option maxRecDepth 20000 in
theorem tw_911 : Cond.selects RX10 yX10_same yX10_same ∈ lw_tbl := tk_4 (j := 145) rfl
set_option maxRecDepth 20000 in
theorem tw_912 : Cond.instanceMethod yX10_same ∈ lw_tbl := tk_4 (j := 144) rfl
set_option maxRecDepth 20000 in
theorem tw_913 : Cond.methodLink RL 68 yX10_same ∈ lw_tbl := tk_4 (j := 143) rfl
set_option maxRecDepth 20000 in
theorem tw_914 : Cond.code yX11_same cX11_same 2 (some .int) ∈ lw_tbl := tk_7 (j := 217) rfl
set_option maxRecDepth 20000 in
theorem tw_915 : Cond.code yX11_less cX11_less 3 (some .int) ∈ lw_tbl := tk_7 (j := 225) rfl
set_option maxRecDepth 20000 in
theorem tw_916 : Cond.selects RX11 yX11_less yX11_less ∈ lw_tbl := ts_6 (q := (yX11_less, 40)) (List.mem_of_getElem? (i := 12) rfl)
set_option maxRecDepth 20000 in
theorem tw_917 : Cond.instanceMethod yX11_less ∈ lw_tbl := tk_7 (j := 224) rfl
set_option maxRecDepth 20000 in
theorem tw_918 : Cond.methodLink RX11 320 yX11_less ∈ lw_tbl := tk_7 (j := 222) rfl
set_option maxRecDepth 20000 in
theorem tw_919 : Cond.code yX11_sameOf cX11_sameOf 3 (some .int) ∈ lw_tbl := tk_7 (j := 221) rfl
