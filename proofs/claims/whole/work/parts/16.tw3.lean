set_option maxRecDepth 20000 in
theorem tw_1380 : Cond.code yX11_memory cX11_memory 1 (some .int) ∈ lw_tbl := tk_8 (j := 146) rfl
set_option maxRecDepth 20000 in
theorem tw_1381 : Cond.code yX11_tellsAll cX11_tellsAll 8 (some .boolean) ∈ lw_tbl := tk_8 (j := 154) rfl
set_option maxRecDepth 20000 in
theorem tw_1382 : Cond.selects RX11 yX11_tellsAll yX11_tellsAll ∈ lw_tbl := ts_7 (q := (yX11_tellsAll, 40)) (List.mem_of_getElem? (i := 15) rfl)
set_option maxRecDepth 20000 in
theorem tw_1383 : Cond.instanceMethod yX11_tellsAll ∈ lw_tbl := tk_8 (j := 153) rfl
set_option maxRecDepth 20000 in
theorem tw_1384 : Cond.methodLink RX11 388 yX11_tellsAll ∈ lw_tbl := tk_8 (j := 151) rfl
set_option maxRecDepth 20000 in
theorem tw_1385 : Cond.code yX11_fewestStates cX11_fewestStates 3 (some .int) ∈ lw_tbl := tk_8 (j := 150) rfl
set_option maxRecDepth 20000 in
theorem tw_1386 : Cond.selects RX11 yX11_fewestStates yX11_fewestStates ∈ lw_tbl := ts_7 (q := (yX11_fewestStates, 40)) (List.mem_of_getElem? (i := 14) rfl)
set_option maxRecDepth 20000 in
theorem tw_1387 : Cond.instanceMethod yX11_fewestStates ∈ lw_tbl := tk_8 (j := 149) rfl
set_option maxRecDepth 20000 in
theorem tw_1388 : Cond.methodLink RX11 392 yX11_fewestStates ∈ lw_tbl := tk_8 (j := 147) rfl
set_option maxRecDepth 20000 in
theorem tw_1389 : Cond.selects RX11 yX11_memory yX11_memory ∈ lw_tbl := tk_8 (j := 145) rfl
set_option maxRecDepth 20000 in
theorem tw_1390 : Cond.instanceMethod yX11_memory ∈ lw_tbl := tk_8 (j := 144) rfl
set_option maxRecDepth 20000 in
theorem tw_1391 : Cond.methodLink RL 160 yX11_memory ∈ lw_tbl := tk_8 (j := 143) rfl
set_option maxRecDepth 20000 in
theorem tw_1392 : Cond.code yX10_machine cX10_machine 4 (some .int) ∈ lw_tbl := tk_5 (j := 123) rfl
set_option maxRecDepth 20000 in
theorem tw_1393 : Cond.code yX9_entry cX9_entry 5 (some .int) ∈ lw_tbl := tk_5 (j := 127) rfl
set_option maxRecDepth 20000 in
theorem tw_1394 : Cond.selects RX9 yX9_entry yX9_entry ∈ lw_tbl := tk_5 (j := 126) rfl
set_option maxRecDepth 20000 in
theorem tw_1395 : Cond.instanceMethod yX9_entry ∈ lw_tbl := tk_5 (j := 125) rfl
set_option maxRecDepth 20000 in
theorem tw_1396 : Cond.methodLink RX10 271 yX9_entry ∈ lw_tbl := tk_5 (j := 124) rfl
set_option maxRecDepth 20000 in
theorem tw_1397 : Cond.selects RX10 yX10_machine yX10_machine ∈ lw_tbl := tk_5 (j := 122) rfl
set_option maxRecDepth 20000 in
theorem tw_1398 : Cond.instanceMethod yX10_machine ∈ lw_tbl := tk_5 (j := 121) rfl
set_option maxRecDepth 20000 in
theorem tw_1399 : Cond.methodLink RL 161 yX10_machine ∈ lw_tbl := tk_5 (j := 120) rfl
set_option maxRecDepth 20000 in
theorem tw_1400 : Cond.code yX11_machine cX11_machine 5 (some .int) ∈ lw_tbl := tk_8 (j := 158) rfl
set_option maxRecDepth 20000 in
theorem tw_1401 : Cond.instanceMethod yX11_fewestStates ∈ lw_tbl := tk_8 (j := 149) rfl
set_option maxRecDepth 20000 in
theorem tw_1402 : Cond.methodLink RX11 392 yX11_fewestStates ∈ lw_tbl := tk_8 (j := 147) rfl
set_option maxRecDepth 20000 in
theorem tw_1403 : Cond.fieldLink RX11 66 "NotAtOnceModel" "goes" "[I" ∈ lw_tbl := tk_6 (j := 130) rfl
set_option maxRecDepth 20000 in
theorem tw_1404 : Cond.fieldLink RX11 63 "NotAtOnceModel" "tells" "[I" ∈ lw_tbl := tk_6 (j := 129) rfl
set_option maxRecDepth 20000 in
theorem tw_1405 : Cond.code yX11_tellsAll cX11_tellsAll 8 (some .boolean) ∈ lw_tbl := tk_8 (j := 154) rfl
set_option maxRecDepth 20000 in
theorem tw_1406 : Cond.selects RX11 yX11_tellsAll yX11_tellsAll ∈ lw_tbl := ts_7 (q := (yX11_tellsAll, 40)) (List.mem_of_getElem? (i := 15) rfl)
set_option maxRecDepth 20000 in
theorem tw_1407 : Cond.instanceMethod yX11_tellsAll ∈ lw_tbl := tk_8 (j := 153) rfl
set_option maxRecDepth 20000 in
theorem tw_1408 : Cond.methodLink RX11 388 yX11_tellsAll ∈ lw_tbl := tk_8 (j := 151) rfl
set_option maxRecDepth 20000 in
theorem tw_1409 : Cond.code yX11_fewestStates cX11_fewestStates 3 (some .int) ∈ lw_tbl := tk_8 (j := 150) rfl
set_option maxRecDepth 20000 in
theorem tw_1410 : Cond.selects RX11 yX11_fewestStates yX11_fewestStates ∈ lw_tbl := ts_7 (q := (yX11_fewestStates, 40)) (List.mem_of_getElem? (i := 14) rfl)
set_option maxRecDepth 20000 in
theorem tw_1411 : Cond.selects RX11 yX11_machine yX11_machine ∈ lw_tbl := tk_8 (j := 157) rfl
set_option maxRecDepth 20000 in
theorem tw_1412 : Cond.instanceMethod yX11_machine ∈ lw_tbl := tk_8 (j := 156) rfl
set_option maxRecDepth 20000 in
theorem tw_1413 : Cond.methodLink RL 165 yX11_machine ∈ lw_tbl := tk_8 (j := 155) rfl
set_option maxRecDepth 20000 in
theorem tw_1414 : Cond.code yX10_flip cX10_flip 2 (some .boolean) ∈ lw_tbl := tk_5 (j := 131) rfl
set_option maxRecDepth 20000 in
theorem tw_1415 : Cond.code yX4_begin cX4_begin 4 none ∈ lw_tbl := tk_5 (j := 135) rfl
set_option maxRecDepth 20000 in
theorem tw_1416 : Cond.selects RX4 yX4_begin yX4_begin ∈ lw_tbl := tk_5 (j := 134) rfl
set_option maxRecDepth 20000 in
theorem tw_1417 : Cond.instanceMethod yX4_begin ∈ lw_tbl := tk_5 (j := 133) rfl
set_option maxRecDepth 20000 in
theorem tw_1418 : Cond.methodLink RX10 275 yX4_begin ∈ lw_tbl := tk_5 (j := 132) rfl
set_option maxRecDepth 20000 in
theorem tw_1419 : Cond.selects RX8 yX8_swap yX8_swap ∈ lw_tbl := ts_4 (q := (yX8_swap, 8)) (List.mem_of_getElem? (i := 2) rfl)
set_option maxRecDepth 20000 in
theorem tw_1420 : Cond.instanceMethod yX8_swap ∈ lw_tbl := tk_5 (j := 150) rfl
set_option maxRecDepth 20000 in
theorem tw_1421 : Cond.methodLink RX8 81 yX8_swap ∈ lw_tbl := tk_5 (j := 148) rfl
set_option maxRecDepth 20000 in
theorem tw_1422 : Cond.code yX8_turn cX8_turn 4 none ∈ lw_tbl := tk_5 (j := 147) rfl
set_option maxRecDepth 20000 in
theorem tw_1423 : Cond.selects RX8 yX8_turn yX8_turn ∈ lw_tbl := tk_5 (j := 146) rfl
set_option maxRecDepth 20000 in
theorem tw_1424 : Cond.instanceMethod yX8_turn ∈ lw_tbl := tk_5 (j := 145) rfl
set_option maxRecDepth 20000 in
theorem tw_1425 : Cond.methodLink RX10 279 yX8_turn ∈ lw_tbl := tk_5 (j := 144) rfl
set_option maxRecDepth 20000 in
theorem tw_1426 : Cond.code yX8_save cX8_save 2 none ∈ lw_tbl := tk_5 (j := 143) rfl
set_option maxRecDepth 20000 in
theorem tw_1427 : Cond.selects RX8 yX8_save yX8_save ∈ lw_tbl := tk_5 (j := 142) rfl
set_option maxRecDepth 20000 in
theorem tw_1428 : Cond.instanceMethod yX8_save ∈ lw_tbl := tk_5 (j := 141) rfl
set_option maxRecDepth 20000 in
theorem tw_1429 : Cond.methodLink RX4 41 yX8_save ∈ lw_tbl := tk_5 (j := 140) rfl
set_option maxRecDepth 20000 in
theorem tw_1430 : Cond.code yX4_leaveOldest cX4_leaveOldest 4 none ∈ lw_tbl := tk_5 (j := 139) rfl
set_option maxRecDepth 20000 in
theorem tw_1431 : Cond.selects RX4 yX4_leaveOldest yX4_leaveOldest ∈ lw_tbl := ts_4 (q := (yX4_leaveOldest, 7)) (List.mem_of_getElem? (i := 1) rfl)
set_option maxRecDepth 20000 in
theorem tw_1432 : Cond.instanceMethod yX4_leaveOldest ∈ lw_tbl := tk_5 (j := 138) rfl
set_option maxRecDepth 20000 in
theorem tw_1433 : Cond.methodLink RX4 38 yX4_leaveOldest ∈ lw_tbl := tk_5 (j := 136) rfl
set_option maxRecDepth 20000 in
theorem tw_1434 : Cond.code yX8_swap cX8_swap 5 none ∈ lw_tbl := tk_5 (j := 151) rfl
set_option maxRecDepth 20000 in
theorem tw_1435 : Cond.selects RX10 yX10_flip yX10_flip ∈ lw_tbl := tk_5 (j := 130) rfl
set_option maxRecDepth 20000 in
theorem tw_1436 : Cond.instanceMethod yX10_flip ∈ lw_tbl := tk_5 (j := 129) rfl
set_option maxRecDepth 20000 in
theorem tw_1437 : Cond.methodLink RL 166 yX10_flip ∈ lw_tbl := tk_5 (j := 128) rfl
set_option maxRecDepth 20000 in
theorem tw_1438 : Cond.code yX11_flip cX11_flip 9 (some .boolean) ∈ lw_tbl := tk_8 (j := 162) rfl
set_option maxRecDepth 20000 in
theorem tw_1439 : Cond.static yX11_copy ∈ lw_tbl := tk_8 (j := 164) rfl
set_option maxRecDepth 20000 in
theorem tw_1440 : Cond.methodLink RX11 399 yX11_copy ∈ lw_tbl := tk_8 (j := 163) rfl
set_option maxRecDepth 20000 in
theorem tw_1441 : Cond.fieldLink RX11 29 "NotAtOnceModel" "was" "[I" ∈ lw_tbl := tk_6 (j := 109) rfl
set_option maxRecDepth 20000 in
theorem tw_1442 : Cond.code yX11_keep cX11_keep 11 none ∈ lw_tbl := tk_8 (j := 172) rfl
set_option maxRecDepth 20000 in
theorem tw_1443 : Cond.static yX11_keep ∈ lw_tbl := tk_8 (j := 171) rfl
set_option maxRecDepth 20000 in
theorem tw_1444 : Cond.methodLink RX11 395 yX11_keep ∈ lw_tbl := tk_8 (j := 170) rfl
set_option maxRecDepth 20000 in
theorem tw_1445 : Cond.fieldLink RX11 41 "NotAtOnceModel" "undoneActs" "[I" ∈ lw_tbl := tk_6 (j := 113) rfl
set_option maxRecDepth 20000 in
theorem tw_1446 : Cond.fieldLink RX11 32 "NotAtOnceModel" "undone" "[I" ∈ lw_tbl := tk_6 (j := 110) rfl
set_option maxRecDepth 20000 in
theorem tw_1447 : Cond.code yX11_did cX11_did 6 (some .boolean) ∈ lw_tbl := tk_8 (j := 169) rfl
set_option maxRecDepth 20000 in
theorem tw_1448 : Cond.selects RX11 yX11_did yX11_did ∈ lw_tbl := ts_8 (q := (yX11_did, 40)) (List.mem_of_getElem? (i := 0) rfl)
set_option maxRecDepth 20000 in
theorem tw_1449 : Cond.instanceMethod yX11_did ∈ lw_tbl := tk_8 (j := 168) rfl
set_option maxRecDepth 20000 in
theorem tw_1450 : Cond.methodLink RX11 403 yX11_did ∈ lw_tbl := tk_8 (j := 166) rfl
set_option maxRecDepth 20000 in
theorem tw_1451 : Cond.code yX11_copy cX11_copy 6 none ∈ lw_tbl := tk_8 (j := 165) rfl
set_option maxRecDepth 20000 in
theorem tw_1452 : Cond.selects RX11 yX11_flip yX11_flip ∈ lw_tbl := tk_8 (j := 161) rfl
set_option maxRecDepth 20000 in
theorem tw_1453 : Cond.instanceMethod yX11_flip ∈ lw_tbl := tk_8 (j := 160) rfl
set_option maxRecDepth 20000 in
theorem tw_1454 : Cond.methodLink RL 170 yX11_flip ∈ lw_tbl := tk_8 (j := 159) rfl
set_option maxRecDepth 20000 in
theorem tw_1455 : Cond.code yX10_drop cX10_drop 2 (some .boolean) ∈ lw_tbl := tk_5 (j := 155) rfl
set_option maxRecDepth 20000 in
theorem tw_1456 : Cond.methodLink RX10 282 yX8_hasSet ∈ lw_tbl := tk_5 (j := 156) rfl
set_option maxRecDepth 20000 in
theorem tw_1457 : Cond.code yX8_remove cX8_remove 4 none ∈ lw_tbl := tk_5 (j := 160) rfl
set_option maxRecDepth 20000 in
theorem tw_1458 : Cond.selects RX8 yX8_remove yX8_remove ∈ lw_tbl := tk_5 (j := 159) rfl
set_option maxRecDepth 20000 in
theorem tw_1459 : Cond.instanceMethod yX8_remove ∈ lw_tbl := tk_5 (j := 158) rfl
set_option maxRecDepth 20000 in
theorem tw_1460 : Cond.methodLink RX10 285 yX8_remove ∈ lw_tbl := tk_5 (j := 157) rfl
set_option maxRecDepth 20000 in
theorem tw_1461 : Cond.selects RX10 yX10_drop yX10_drop ∈ lw_tbl := tk_5 (j := 154) rfl
set_option maxRecDepth 20000 in
theorem tw_1462 : Cond.instanceMethod yX10_drop ∈ lw_tbl := tk_5 (j := 153) rfl
set_option maxRecDepth 20000 in
theorem tw_1463 : Cond.methodLink RL 171 yX10_drop ∈ lw_tbl := tk_5 (j := 152) rfl
set_option maxRecDepth 20000 in
theorem tw_1464 : Cond.code yX11_drop cX11_drop 2 (some .boolean) ∈ lw_tbl := tk_8 (j := 176) rfl
set_option maxRecDepth 20000 in
theorem tw_1465 : Cond.code yX11_goesAway cX11_goesAway 4 none ∈ lw_tbl := tk_8 (j := 180) rfl
set_option maxRecDepth 20000 in
theorem tw_1466 : Cond.selects RX11 yX11_goesAway yX11_goesAway ∈ lw_tbl := ts_8 (q := (yX11_goesAway, 40)) (List.mem_of_getElem? (i := 1) rfl)
set_option maxRecDepth 20000 in
theorem tw_1467 : Cond.instanceMethod yX11_goesAway ∈ lw_tbl := tk_8 (j := 179) rfl
set_option maxRecDepth 20000 in
theorem tw_1468 : Cond.methodLink RX11 407 yX11_goesAway ∈ lw_tbl := tk_8 (j := 177) rfl
set_option maxRecDepth 20000 in
theorem tw_1469 : Cond.selects RX11 yX11_drop yX11_drop ∈ lw_tbl := tk_8 (j := 175) rfl
set_option maxRecDepth 20000 in
theorem tw_1470 : Cond.instanceMethod yX11_drop ∈ lw_tbl := tk_8 (j := 174) rfl
set_option maxRecDepth 20000 in
theorem tw_1471 : Cond.methodLink RL 174 yX11_drop ∈ lw_tbl := tk_8 (j := 173) rfl
set_option maxRecDepth 20000 in
theorem tw_1472 : Cond.code yX10_forget cX10_forget 2 (some .boolean) ∈ lw_tbl := tk_5 (j := 164) rfl
set_option maxRecDepth 20000 in
theorem tw_1473 : Cond.code yX8_isLookedAt cX8_isLookedAt 3 (some .boolean) ∈ lw_tbl := tk_5 (j := 168) rfl
set_option maxRecDepth 20000 in
theorem tw_1474 : Cond.selects RX8 yX8_isLookedAt yX8_isLookedAt ∈ lw_tbl := tk_5 (j := 167) rfl
set_option maxRecDepth 20000 in
theorem tw_1475 : Cond.instanceMethod yX8_isLookedAt ∈ lw_tbl := tk_5 (j := 166) rfl
set_option maxRecDepth 20000 in
theorem tw_1476 : Cond.methodLink RX10 288 yX8_isLookedAt ∈ lw_tbl := tk_5 (j := 165) rfl
set_option maxRecDepth 20000 in
theorem tw_1477 : Cond.code yX8_merge cX8_merge 3 none ∈ lw_tbl := tk_5 (j := 172) rfl
set_option maxRecDepth 20000 in
theorem tw_1478 : Cond.selects RX8 yX8_merge yX8_merge ∈ lw_tbl := tk_5 (j := 171) rfl
set_option maxRecDepth 20000 in
theorem tw_1479 : Cond.instanceMethod yX8_merge ∈ lw_tbl := tk_5 (j := 170) rfl
set_option maxRecDepth 20000 in
theorem tw_1480 : Cond.methodLink RX10 291 yX8_merge ∈ lw_tbl := tk_5 (j := 169) rfl
set_option maxRecDepth 20000 in
theorem tw_1481 : Cond.code yX8_putTogether cX8_putTogether 8 none ∈ lw_tbl := tk_5 (j := 177) rfl
set_option maxRecDepth 20000 in
theorem tw_1482 : Cond.selects RX8 yX8_putTogether yX8_putTogether ∈ lw_tbl := ts_4 (q := (yX8_putTogether, 8)) (List.mem_of_getElem? (i := 3) rfl)
set_option maxRecDepth 20000 in
theorem tw_1483 : Cond.instanceMethod yX8_putTogether ∈ lw_tbl := tk_5 (j := 176) rfl
set_option maxRecDepth 20000 in
theorem tw_1484 : Cond.methodLink RX8 89 yX8_putTogether ∈ lw_tbl := tk_5 (j := 174) rfl
set_option maxRecDepth 20000 in
theorem tw_1485 : Cond.methodLink RX8 85 yX8_remove ∈ lw_tbl := tk_5 (j := 173) rfl
set_option maxRecDepth 20000 in
theorem tw_1486 : Cond.selects RX10 yX10_forget yX10_forget ∈ lw_tbl := tk_5 (j := 163) rfl
set_option maxRecDepth 20000 in
theorem tw_1487 : Cond.instanceMethod yX10_forget ∈ lw_tbl := tk_5 (j := 162) rfl
set_option maxRecDepth 20000 in
theorem tw_1488 : Cond.methodLink RL 175 yX10_forget ∈ lw_tbl := tk_5 (j := 161) rfl
set_option maxRecDepth 20000 in
theorem tw_1489 : Cond.code yX11_forget cX11_forget 9 (some .boolean) ∈ lw_tbl := tk_8 (j := 184) rfl
set_option maxRecDepth 20000 in
theorem tw_1490 : Cond.selects RX11 yX11_forget yX11_forget ∈ lw_tbl := tk_8 (j := 183) rfl
set_option maxRecDepth 20000 in
theorem tw_1491 : Cond.instanceMethod yX11_forget ∈ lw_tbl := tk_8 (j := 182) rfl
set_option maxRecDepth 20000 in
theorem tw_1492 : Cond.methodLink RL 178 yX11_forget ∈ lw_tbl := tk_8 (j := 181) rfl
set_option maxRecDepth 20000 in
theorem tw_1493 : Cond.code yX10_shift cX10_shift 5 (some .boolean) ∈ lw_tbl := tk_5 (j := 181) rfl
set_option maxRecDepth 20000 in
theorem tw_1494 : Cond.fieldLink RX10 294 "NotAtOnce$Table" "times" "[I" ∈ lw_tbl := tk_1 (j := 193) rfl
set_option maxRecDepth 20000 in
theorem tw_1495 : Cond.code yX8_move cX8_move 4 none ∈ lw_tbl := tk_5 (j := 189) rfl
set_option maxRecDepth 20000 in
theorem tw_1496 : Cond.selects RX8 yX8_move yX8_move ∈ lw_tbl := tk_5 (j := 188) rfl
set_option maxRecDepth 20000 in
theorem tw_1497 : Cond.instanceMethod yX8_move ∈ lw_tbl := tk_5 (j := 187) rfl
set_option maxRecDepth 20000 in
theorem tw_1498 : Cond.methodLink RX10 301 yX8_move ∈ lw_tbl := tk_5 (j := 186) rfl
set_option maxRecDepth 20000 in
theorem tw_1499 : Cond.code yX4_tellMove cX4_tellMove 5 none ∈ lw_tbl := tk_5 (j := 185) rfl
set_option maxRecDepth 20000 in
theorem tw_1500 : Cond.selects RX4 yX4_tellMove yX4_tellMove ∈ lw_tbl := tk_5 (j := 184) rfl
set_option maxRecDepth 20000 in
theorem tw_1501 : Cond.instanceMethod yX4_tellMove ∈ lw_tbl := tk_5 (j := 183) rfl
set_option maxRecDepth 20000 in
theorem tw_1502 : Cond.methodLink RX10 297 yX4_tellMove ∈ lw_tbl := tk_5 (j := 182) rfl
set_option maxRecDepth 20000 in
theorem tw_1503 : Cond.selects RX10 yX10_shift yX10_shift ∈ lw_tbl := tk_5 (j := 180) rfl
set_option maxRecDepth 20000 in
theorem tw_1504 : Cond.instanceMethod yX10_shift ∈ lw_tbl := tk_5 (j := 179) rfl
set_option maxRecDepth 20000 in
theorem tw_1505 : Cond.methodLink RL 179 yX10_shift ∈ lw_tbl := tk_5 (j := 178) rfl
set_option maxRecDepth 20000 in
theorem tw_1506 : Cond.code yX11_shift cX11_shift 5 (some .boolean) ∈ lw_tbl := tk_8 (j := 188) rfl
set_option maxRecDepth 20000 in
theorem tw_1507 : Cond.selects RX11 yX11_shift yX11_shift ∈ lw_tbl := tk_8 (j := 187) rfl
set_option maxRecDepth 20000 in
theorem tw_1508 : Cond.instanceMethod yX11_shift ∈ lw_tbl := tk_8 (j := 186) rfl
set_option maxRecDepth 20000 in
theorem tw_1509 : Cond.methodLink RL 183 yX11_shift ∈ lw_tbl := tk_8 (j := 185) rfl
set_option maxRecDepth 20000 in
theorem tw_1510 : Cond.code yX10_undo cX10_undo 1 (some .boolean) ∈ lw_tbl := tk_5 (j := 193) rfl
set_option maxRecDepth 20000 in
theorem tw_1511 : Cond.instanceMethod yX8_restore ∈ lw_tbl := tk_5 (j := 199) rfl
set_option maxRecDepth 20000 in
theorem tw_1512 : Cond.methodLink RX4 45 yX8_restore ∈ lw_tbl := tk_5 (j := 198) rfl
set_option maxRecDepth 20000 in
theorem tw_1513 : Cond.code yX4_takeBack cX4_takeBack 1 (some .boolean) ∈ lw_tbl := tk_5 (j := 197) rfl
set_option maxRecDepth 20000 in
theorem tw_1514 : Cond.selects RX4 yX4_takeBack yX4_takeBack ∈ lw_tbl := tk_5 (j := 196) rfl
set_option maxRecDepth 20000 in
theorem tw_1515 : Cond.instanceMethod yX4_takeBack ∈ lw_tbl := tk_5 (j := 195) rfl
set_option maxRecDepth 20000 in
theorem tw_1516 : Cond.methodLink RX10 304 yX4_takeBack ∈ lw_tbl := tk_5 (j := 194) rfl
set_option maxRecDepth 20000 in
theorem tw_1517 : Cond.code yX8_restore cX8_restore 2 none ∈ lw_tbl := tk_5 (j := 201) rfl
set_option maxRecDepth 20000 in
theorem tw_1518 : Cond.selects RX8 yX8_restore yX8_restore ∈ lw_tbl := tk_5 (j := 200) rfl
set_option maxRecDepth 20000 in
theorem tw_1519 : Cond.selects RX10 yX10_undo yX10_undo ∈ lw_tbl := tk_5 (j := 192) rfl
set_option maxRecDepth 20000 in
theorem tw_1520 : Cond.instanceMethod yX10_undo ∈ lw_tbl := tk_5 (j := 191) rfl
set_option maxRecDepth 20000 in
theorem tw_1521 : Cond.methodLink RL 184 yX10_undo ∈ lw_tbl := tk_5 (j := 190) rfl
set_option maxRecDepth 20000 in
theorem tw_1522 : Cond.code yX11_undo cX11_undo 2 (some .boolean) ∈ lw_tbl := tk_8 (j := 192) rfl
set_option maxRecDepth 20000 in
theorem tw_1523 : Cond.fieldLink RX11 44 "NotAtOnceModel" "redoneActs" "[I" ∈ lw_tbl := tk_6 (j := 114) rfl
set_option maxRecDepth 20000 in
theorem tw_1524 : Cond.fieldLink RX11 35 "NotAtOnceModel" "redone" "[I" ∈ lw_tbl := tk_6 (j := 111) rfl
set_option maxRecDepth 20000 in
theorem tw_1525 : Cond.selects RX11 yX11_undo yX11_undo ∈ lw_tbl := tk_8 (j := 191) rfl
set_option maxRecDepth 20000 in
theorem tw_1526 : Cond.instanceMethod yX11_undo ∈ lw_tbl := tk_8 (j := 190) rfl
set_option maxRecDepth 20000 in
theorem tw_1527 : Cond.methodLink RL 188 yX11_undo ∈ lw_tbl := tk_8 (j := 189) rfl
set_option maxRecDepth 20000 in
theorem tw_1528 : Cond.code yX10_redo cX10_redo 1 (some .boolean) ∈ lw_tbl := tk_5 (j := 205) rfl
set_option maxRecDepth 20000 in
theorem tw_1529 : Cond.code yX4_makeAgain cX4_makeAgain 1 (some .boolean) ∈ lw_tbl := tk_5 (j := 209) rfl
set_option maxRecDepth 20000 in
theorem tw_1530 : Cond.selects RX4 yX4_makeAgain yX4_makeAgain ∈ lw_tbl := tk_5 (j := 208) rfl
set_option maxRecDepth 20000 in
theorem tw_1531 : Cond.instanceMethod yX4_makeAgain ∈ lw_tbl := tk_5 (j := 207) rfl
set_option maxRecDepth 20000 in
theorem tw_1532 : Cond.methodLink RX10 307 yX4_makeAgain ∈ lw_tbl := tk_5 (j := 206) rfl
set_option maxRecDepth 20000 in
theorem tw_1533 : Cond.selects RX10 yX10_redo yX10_redo ∈ lw_tbl := tk_5 (j := 204) rfl
set_option maxRecDepth 20000 in
theorem tw_1534 : Cond.instanceMethod yX10_redo ∈ lw_tbl := tk_5 (j := 203) rfl
set_option maxRecDepth 20000 in
theorem tw_1535 : Cond.methodLink RL 189 yX10_redo ∈ lw_tbl := tk_5 (j := 202) rfl
set_option maxRecDepth 20000 in
theorem tw_1536 : Cond.code yX11_redo cX11_redo 2 (some .boolean) ∈ lw_tbl := tk_8 (j := 196) rfl
set_option maxRecDepth 20000 in
theorem tw_1537 : Cond.selects RX11 yX11_redo yX11_redo ∈ lw_tbl := tk_8 (j := 195) rfl
set_option maxRecDepth 20000 in
theorem tw_1538 : Cond.instanceMethod yX11_redo ∈ lw_tbl := tk_8 (j := 194) rfl
set_option maxRecDepth 20000 in
theorem tw_1539 : Cond.methodLink RL 192 yX11_redo ∈ lw_tbl := tk_8 (j := 193) rfl
set_option maxRecDepth 20000 in
theorem tw_1540 : Cond.code yX10_mark cX10_mark 1 (some .int) ∈ lw_tbl := tk_5 (j := 213) rfl
set_option maxRecDepth 20000 in
theorem tw_1541 : Cond.code yX4_keep cX4_keep 1 (some .int) ∈ lw_tbl := tk_5 (j := 217) rfl
set_option maxRecDepth 20000 in
theorem tw_1542 : Cond.selects RX4 yX4_keep yX4_keep ∈ lw_tbl := tk_5 (j := 216) rfl
set_option maxRecDepth 20000 in
theorem tw_1543 : Cond.instanceMethod yX4_keep ∈ lw_tbl := tk_5 (j := 215) rfl
set_option maxRecDepth 20000 in
theorem tw_1544 : Cond.methodLink RX10 313 yX4_keep ∈ lw_tbl := tk_5 (j := 214) rfl
set_option maxRecDepth 20000 in
theorem tw_1545 : Cond.fieldLink RX10 310 "NotAtOnce$History" "marks" "I" ∈ lw_tbl := tk_2 (j := 163) rfl
set_option maxRecDepth 20000 in
theorem tw_1546 : Cond.selects RX10 yX10_mark yX10_mark ∈ lw_tbl := tk_5 (j := 212) rfl
set_option maxRecDepth 20000 in
theorem tw_1547 : Cond.instanceMethod yX10_mark ∈ lw_tbl := tk_5 (j := 211) rfl
set_option maxRecDepth 20000 in
theorem tw_1548 : Cond.methodLink RL 193 yX10_mark ∈ lw_tbl := tk_5 (j := 210) rfl
set_option maxRecDepth 20000 in
theorem tw_1549 : Cond.code yX11_mark cX11_mark 1 (some .int) ∈ lw_tbl := tk_8 (j := 200) rfl
set_option maxRecDepth 20000 in
theorem tw_1550 : Cond.code yX11_copy cX11_copy 6 none ∈ lw_tbl := tk_8 (j := 165) rfl
set_option maxRecDepth 20000 in
theorem tw_1551 : Cond.static yX11_copy ∈ lw_tbl := tk_8 (j := 164) rfl
set_option maxRecDepth 20000 in
theorem tw_1552 : Cond.methodLink RX11 399 yX11_copy ∈ lw_tbl := tk_8 (j := 163) rfl
set_option maxRecDepth 20000 in
theorem tw_1553 : Cond.fieldLink RX11 195 "NotAtOnceModel" "marks" "I" ∈ lw_tbl := tk_6 (j := 117) rfl
set_option maxRecDepth 20000 in
theorem tw_1554 : Cond.selects RX11 yX11_mark yX11_mark ∈ lw_tbl := tk_8 (j := 199) rfl
set_option maxRecDepth 20000 in
theorem tw_1555 : Cond.instanceMethod yX11_mark ∈ lw_tbl := tk_8 (j := 198) rfl
set_option maxRecDepth 20000 in
theorem tw_1556 : Cond.methodLink RL 196 yX11_mark ∈ lw_tbl := tk_8 (j := 197) rfl
set_option maxRecDepth 20000 in
theorem tw_1557 : Cond.code yX10_back cX10_back 2 (some .boolean) ∈ lw_tbl := tk_5 (j := 221) rfl
set_option maxRecDepth 20000 in
theorem tw_1558 : Cond.code yX4_goBack cX4_goBack 2 (some .boolean) ∈ lw_tbl := tk_5 (j := 225) rfl
set_option maxRecDepth 20000 in
theorem tw_1559 : Cond.selects RX4 yX4_goBack yX4_goBack ∈ lw_tbl := tk_5 (j := 224) rfl
set_option maxRecDepth 20000 in
theorem tw_1560 : Cond.instanceMethod yX4_goBack ∈ lw_tbl := tk_5 (j := 223) rfl
set_option maxRecDepth 20000 in
theorem tw_1561 : Cond.methodLink RX10 316 yX4_goBack ∈ lw_tbl := tk_5 (j := 222) rfl
set_option maxRecDepth 20000 in
theorem tw_1562 : Cond.selects RX10 yX10_back yX10_back ∈ lw_tbl := tk_5 (j := 220) rfl
set_option maxRecDepth 20000 in
theorem tw_1563 : Cond.instanceMethod yX10_back ∈ lw_tbl := tk_5 (j := 219) rfl
set_option maxRecDepth 20000 in
theorem tw_1564 : Cond.methodLink RL 197 yX10_back ∈ lw_tbl := tk_5 (j := 218) rfl
set_option maxRecDepth 20000 in
theorem tw_1565 : Cond.code yX11_back cX11_back 2 (some .boolean) ∈ lw_tbl := tk_8 (j := 204) rfl
set_option maxRecDepth 20000 in
theorem tw_1566 : Cond.fieldLink RX11 38 "NotAtOnceModel" "marked" "[I" ∈ lw_tbl := tk_6 (j := 112) rfl
set_option maxRecDepth 20000 in
theorem tw_1567 : Cond.selects RX11 yX11_back yX11_back ∈ lw_tbl := tk_8 (j := 203) rfl
set_option maxRecDepth 20000 in
theorem tw_1568 : Cond.instanceMethod yX11_back ∈ lw_tbl := tk_8 (j := 202) rfl
set_option maxRecDepth 20000 in
theorem tw_1569 : Cond.methodLink RL 200 yX11_back ∈ lw_tbl := tk_8 (j := 201) rfl
set_option maxRecDepth 20000 in
theorem tw_1570 : Cond.code yX10_act cX10_act 3 (some .int) ∈ lw_tbl := tk_5 (j := 229) rfl
set_option maxRecDepth 20000 in
theorem tw_1571 : Cond.fieldLink RX10 322 "NotAtOnce$History" "acts" "[[I" ∈ lw_tbl := tk_2 (j := 165) rfl
set_option maxRecDepth 20000 in
theorem tw_1572 : Cond.fieldLink RX10 319 "NotAtOnce$History" "made" "I" ∈ lw_tbl := tk_2 (j := 159) rfl
set_option maxRecDepth 20000 in
theorem tw_1573 : Cond.fieldLink RX10 78 "NotAtOnce" "history" "LNotAtOnce$History;" ∈ lw_tbl := tk_2 (j := 192) rfl
set_option maxRecDepth 20000 in
theorem tw_1574 : Cond.selects RX10 yX10_act yX10_act ∈ lw_tbl := tk_5 (j := 228) rfl
set_option maxRecDepth 20000 in
theorem tw_1575 : Cond.instanceMethod yX10_act ∈ lw_tbl := tk_5 (j := 227) rfl
set_option maxRecDepth 20000 in
theorem tw_1576 : Cond.methodLink RL 201 yX10_act ∈ lw_tbl := tk_5 (j := 226) rfl
set_option maxRecDepth 20000 in
theorem tw_1577 : Cond.code yX11_act cX11_act 3 (some .int) ∈ lw_tbl := tk_8 (j := 208) rfl
set_option maxRecDepth 20000 in
theorem tw_1578 : Cond.fieldLink RX11 189 "NotAtOnceModel" "undos" "I" ∈ lw_tbl := tk_6 (j := 115) rfl
set_option maxRecDepth 20000 in
theorem tw_1579 : Cond.selects RX11 yX11_act yX11_act ∈ lw_tbl := tk_8 (j := 207) rfl
set_option maxRecDepth 20000 in
theorem tw_1580 : Cond.instanceMethod yX11_act ∈ lw_tbl := tk_8 (j := 206) rfl
set_option maxRecDepth 20000 in
theorem tw_1581 : Cond.methodLink RL 204 yX11_act ∈ lw_tbl := tk_8 (j := 205) rfl
set_option maxRecDepth 20000 in
theorem tw_1582 : Cond.code yX10_times cX10_times 3 (some .int) ∈ lw_tbl := tk_5 (j := 233) rfl
set_option maxRecDepth 20000 in
theorem tw_1583 : Cond.selects RX10 yX10_times yX10_times ∈ lw_tbl := tk_5 (j := 232) rfl
set_option maxRecDepth 20000 in
theorem tw_1584 : Cond.instanceMethod yX10_times ∈ lw_tbl := tk_5 (j := 231) rfl
set_option maxRecDepth 20000 in
theorem tw_1585 : Cond.methodLink RL 205 yX10_times ∈ lw_tbl := tk_5 (j := 230) rfl
set_option maxRecDepth 20000 in
theorem tw_1586 : Cond.code yX11_times cX11_times 3 (some .int) ∈ lw_tbl := tk_8 (j := 212) rfl
set_option maxRecDepth 20000 in
theorem tw_1587 : Cond.selects RX11 yX11_times yX11_times ∈ lw_tbl := tk_8 (j := 211) rfl
set_option maxRecDepth 20000 in
theorem tw_1588 : Cond.instanceMethod yX11_times ∈ lw_tbl := tk_8 (j := 210) rfl
set_option maxRecDepth 20000 in
theorem tw_1589 : Cond.methodLink RL 208 yX11_times ∈ lw_tbl := tk_8 (j := 209) rfl
set_option maxRecDepth 20000 in
theorem tw_1590 : Cond.code yX10_look cX10_look 3 (some .int) ∈ lw_tbl := tk_5 (j := 237) rfl
set_option maxRecDepth 20000 in
theorem tw_1591 : Cond.methodLink RX10 282 yX8_hasSet ∈ lw_tbl := tk_5 (j := 156) rfl
set_option maxRecDepth 20000 in
theorem tw_1592 : Cond.fieldLink RX10 329 "NotAtOnce$Table" "first" "[I" ∈ lw_tbl := tk_1 (j := 187) rfl
set_option maxRecDepth 20000 in
theorem tw_1593 : Cond.fieldLink RX10 326 "NotAtOnce$Table" "second" "[I" ∈ lw_tbl := tk_1 (j := 190) rfl
set_option maxRecDepth 20000 in
theorem tw_1594 : Cond.selects RX10 yX10_look yX10_look ∈ lw_tbl := tk_5 (j := 236) rfl
set_option maxRecDepth 20000 in
theorem tw_1595 : Cond.instanceMethod yX10_look ∈ lw_tbl := tk_5 (j := 235) rfl
set_option maxRecDepth 20000 in
theorem tw_1596 : Cond.methodLink RL 209 yX10_look ∈ lw_tbl := tk_5 (j := 234) rfl
set_option maxRecDepth 20000 in
theorem tw_1597 : Cond.code yX11_look cX11_look 3 (some .int) ∈ lw_tbl := tk_8 (j := 216) rfl
set_option maxRecDepth 20000 in
theorem tw_1598 : Cond.selects RX11 yX11_look yX11_look ∈ lw_tbl := tk_8 (j := 215) rfl
set_option maxRecDepth 20000 in
theorem tw_1599 : Cond.instanceMethod yX11_look ∈ lw_tbl := tk_8 (j := 214) rfl
set_option maxRecDepth 20000 in
theorem tw_1600 : Cond.methodLink RL 213 yX11_look ∈ lw_tbl := tk_8 (j := 213) rfl
set_option maxRecDepth 20000 in
theorem tw_1601 : Cond.code yX10_coins cX10_coins 3 (some .int) ∈ lw_tbl := tk_6 (j := 1) rfl
set_option maxRecDepth 20000 in
theorem tw_1602 : Cond.selects RX10 yX10_coins yX10_coins ∈ lw_tbl := tk_6 (j := 0) rfl
set_option maxRecDepth 20000 in
theorem tw_1603 : Cond.instanceMethod yX10_coins ∈ lw_tbl := tk_5 (j := 239) rfl
set_option maxRecDepth 20000 in
theorem tw_1604 : Cond.methodLink RL 214 yX10_coins ∈ lw_tbl := tk_5 (j := 238) rfl
set_option maxRecDepth 20000 in
theorem tw_1605 : Cond.code yX11_coins cX11_coins 3 (some .int) ∈ lw_tbl := tk_8 (j := 220) rfl
set_option maxRecDepth 20000 in
theorem tw_1606 : Cond.selects RX11 yX11_coins yX11_coins ∈ lw_tbl := tk_8 (j := 219) rfl
set_option maxRecDepth 20000 in
theorem tw_1607 : Cond.instanceMethod yX11_coins ∈ lw_tbl := tk_8 (j := 218) rfl
set_option maxRecDepth 20000 in
theorem tw_1608 : Cond.methodLink RL 217 yX11_coins ∈ lw_tbl := tk_8 (j := 217) rfl
set_option maxRecDepth 20000 in
theorem tw_1609 : Cond.codeWith yL_led cL_led 4 (some .int) [(0, 9, 12, 13)] ∈ lw_tbl := tk_6 (j := 12) rfl
set_option maxRecDepth 20000 in
theorem tw_1610 : Cond.initialized "java/util/NoSuchElementException" ∈ lw_tbl := tk_1 (j := 23) rfl
set_option maxRecDepth 20000 in
theorem tw_1611 : Cond.classLink RX10 337 "java/util/NoSuchElementException" ∈ lw_tbl := tk_6 (j := 19) rfl
set_option maxRecDepth 20000 in
theorem tw_1612 : Cond.code yX10_led cX10_led 3 (some .int) ∈ lw_tbl := tk_6 (j := 17) rfl
set_option maxRecDepth 20000 in
theorem tw_1613 : Cond.selects RX10 yX10_led yX10_led ∈ lw_tbl := tk_6 (j := 16) rfl
set_option maxRecDepth 20000 in
theorem tw_1614 : Cond.instanceMethod yX10_led ∈ lw_tbl := tk_6 (j := 15) rfl
set_option maxRecDepth 20000 in
theorem tw_1615 : Cond.methodLink RL 7 yX10_led ∈ lw_tbl := tk_6 (j := 14) rfl
set_option maxRecDepth 20000 in
theorem tw_1616 : Cond.classLink RL 13 "java/util/NoSuchElementException" ∈ lw_tbl := tk_6 (j := 13) rfl
set_option maxRecDepth 20000 in
theorem tw_1617 : Cond.methodLink RX10 344 yX10_bitAt ∈ lw_tbl := tk_6 (j := 84) rfl
set_option maxRecDepth 20000 in
theorem tw_1618 : Cond.methodLink RX10 332 yJ6_bitCount_0f7a4 ∈ lw_tbl := tk_6 (j := 18) rfl
set_option maxRecDepth 20000 in
theorem tw_1619 : Cond.initialized RL ∈ lw_tbl := tk_1 (j := 0) rfl
set_option maxRecDepth 20000 in
theorem tw_1620 : Cond.static yL_led ∈ lw_tbl := tk_6 (j := 11) rfl
set_option maxRecDepth 20000 in
theorem tw_1621 : Cond.methodLink RL 218 yL_led ∈ lw_tbl := tk_6 (j := 10) rfl
set_option maxRecDepth 20000 in
theorem tw_1622 : Cond.code yX11_led cX11_led 5 (some .int) ∈ lw_tbl := tk_8 (j := 224) rfl
set_option maxRecDepth 20000 in
theorem tw_1623 : Cond.code yX11_fitsAll cX11_fitsAll 5 (some .boolean) ∈ lw_tbl := tk_7 (j := 189) rfl
set_option maxRecDepth 20000 in
theorem tw_1624 : Cond.selects RX11 yX11_fitsAll yX11_fitsAll ∈ lw_tbl := ts_6 (q := (yX11_fitsAll, 40)) (List.mem_of_getElem? (i := 8) rfl)
set_option maxRecDepth 20000 in
theorem tw_1625 : Cond.instanceMethod yX11_fitsAll ∈ lw_tbl := tk_7 (j := 188) rfl
set_option maxRecDepth 20000 in
theorem tw_1626 : Cond.methodLink RX11 302 yX11_fitsAll ∈ lw_tbl := tk_7 (j := 186) rfl
set_option maxRecDepth 20000 in
theorem tw_1627 : Cond.code yX11_fitted cX11_fitted 4 (some .int) ∈ lw_tbl := tk_7 (j := 139) rfl
set_option maxRecDepth 20000 in
theorem tw_1628 : Cond.selects RX11 yX11_fitted yX11_fitted ∈ lw_tbl := ts_6 (q := (yX11_fitted, 40)) (List.mem_of_getElem? (i := 0) rfl)
set_option maxRecDepth 20000 in
theorem tw_1629 : Cond.instanceMethod yX11_fitted ∈ lw_tbl := tk_7 (j := 138) rfl
set_option maxRecDepth 20000 in
theorem tw_1630 : Cond.methodLink RX11 263 yX11_fitted ∈ lw_tbl := tk_7 (j := 136) rfl
set_option maxRecDepth 20000 in
theorem tw_1631 : Cond.code yX11_hiddenMany cX11_hiddenMany 1 (some .int) ∈ lw_tbl := tk_7 (j := 129) rfl
set_option maxRecDepth 20000 in
theorem tw_1632 : Cond.selects RX11 yX11_hiddenMany yX11_hiddenMany ∈ lw_tbl := ts_5 (q := (yX11_hiddenMany, 40)) (List.mem_of_getElem? (i := 15) rfl)
set_option maxRecDepth 20000 in
theorem tw_1633 : Cond.instanceMethod yX11_hiddenMany ∈ lw_tbl := tk_7 (j := 128) rfl
set_option maxRecDepth 20000 in
theorem tw_1634 : Cond.methodLink RX11 251 yX11_hiddenMany ∈ lw_tbl := tk_7 (j := 126) rfl
set_option maxRecDepth 20000 in
theorem tw_1635 : Cond.code yX11_doesExtend cX11_doesExtend 5 (some .boolean) ∈ lw_tbl := tk_7 (j := 185) rfl
set_option maxRecDepth 20000 in
theorem tw_1636 : Cond.selects RX11 yX11_doesExtend yX11_doesExtend ∈ lw_tbl := ts_6 (q := (yX11_doesExtend, 40)) (List.mem_of_getElem? (i := 7) rfl)
set_option maxRecDepth 20000 in
theorem tw_1637 : Cond.instanceMethod yX11_doesExtend ∈ lw_tbl := tk_7 (j := 184) rfl
set_option maxRecDepth 20000 in
theorem tw_1638 : Cond.methodLink RX11 308 yX11_doesExtend ∈ lw_tbl := tk_7 (j := 182) rfl
set_option maxRecDepth 20000 in
theorem tw_1639 : Cond.selects RX11 yX11_led yX11_led ∈ lw_tbl := tk_8 (j := 223) rfl
set_option maxRecDepth 20000 in
theorem tw_1640 : Cond.instanceMethod yX11_led ∈ lw_tbl := tk_8 (j := 222) rfl
set_option maxRecDepth 20000 in
theorem tw_1641 : Cond.methodLink RL 223 yX11_led ∈ lw_tbl := tk_8 (j := 221) rfl
set_option maxRecDepth 20000 in
theorem tw_1642 : Cond.code yX11_thrown cX11_thrown 1 (some .int) ∈ lw_tbl := tk_6 (j := 215) rfl
set_option maxRecDepth 20000 in
theorem tw_1643 : Cond.selects RX11 yX11_thrown yX11_thrown ∈ lw_tbl := tk_6 (j := 214) rfl
set_option maxRecDepth 20000 in
theorem tw_1644 : Cond.instanceMethod yX11_thrown ∈ lw_tbl := tk_6 (j := 213) rfl
set_option maxRecDepth 20000 in
theorem tw_1645 : Cond.methodLink RL 224 yX11_thrown ∈ lw_tbl := tk_6 (j := 212) rfl
set_option maxRecDepth 20000 in
theorem tw_1646 : Cond.code yX10_size cX10_size 2 (some .int) ∈ lw_tbl := tk_6 (j := 5) rfl
set_option maxRecDepth 20000 in
theorem tw_1647 : Cond.fieldLink RX10 310 "NotAtOnce$History" "marks" "I" ∈ lw_tbl := tk_2 (j := 163) rfl
set_option maxRecDepth 20000 in
theorem tw_1648 : Cond.fieldLink RX10 357 "NotAtOnce$History" "known" "I" ∈ lw_tbl := tk_2 (j := 161) rfl
set_option maxRecDepth 20000 in
theorem tw_1649 : Cond.fieldLink RX10 354 "NotAtOnce$Telling" "runs" "I" ∈ lw_tbl := tk_2 (j := 118) rfl
set_option maxRecDepth 20000 in
theorem tw_1650 : Cond.fieldLink RX10 71 "NotAtOnce" "telling" "LNotAtOnce$Telling;" ∈ lw_tbl := tk_2 (j := 191) rfl
set_option maxRecDepth 20000 in
theorem tw_1651 : Cond.fieldLink RX10 351 "NotAtOnce$Frames" "rays" "I" ∈ lw_tbl := tk_2 (j := 68) rfl
set_option maxRecDepth 20000 in
theorem tw_1652 : Cond.fieldLink RX10 234 "NotAtOnce$Parities" "lines" "I" ∈ lw_tbl := tk_2 (j := 41) rfl
set_option maxRecDepth 20000 in
theorem tw_1653 : Cond.fieldLink RX10 348 "NotAtOnce$Table" "count" "I" ∈ lw_tbl := tk_1 (j := 182) rfl
set_option maxRecDepth 20000 in
theorem tw_1654 : Cond.fieldLink RX10 122 "NotAtOnce$Table" "looks" "I" ∈ lw_tbl := tk_1 (j := 178) rfl
set_option maxRecDepth 20000 in
theorem tw_1655 : Cond.selects RX10 yX10_size yX10_size ∈ lw_tbl := tk_6 (j := 4) rfl
set_option maxRecDepth 20000 in
theorem tw_1656 : Cond.instanceMethod yX10_size ∈ lw_tbl := tk_6 (j := 3) rfl
set_option maxRecDepth 20000 in
theorem tw_1657 : Cond.methodLink RL 227 yX10_size ∈ lw_tbl := tk_6 (j := 2) rfl
set_option maxRecDepth 20000 in
theorem tw_1658 : Cond.code yX11_size cX11_size 2 (some .int) ∈ lw_tbl := tk_8 (j := 228) rfl
set_option maxRecDepth 20000 in
theorem tw_1659 : Cond.fieldLink RX11 192 "NotAtOnceModel" "redos" "I" ∈ lw_tbl := tk_6 (j := 116) rfl
set_option maxRecDepth 20000 in
theorem tw_1660 : Cond.selects RX11 yX11_size yX11_size ∈ lw_tbl := tk_8 (j := 227) rfl
set_option maxRecDepth 20000 in
theorem tw_1661 : Cond.instanceMethod yX11_size ∈ lw_tbl := tk_8 (j := 226) rfl
set_option maxRecDepth 20000 in
theorem tw_1662 : Cond.methodLink RL 230 yX11_size ∈ lw_tbl := tk_8 (j := 225) rfl
set_option maxRecDepth 20000 in
theorem tw_1663 : Cond.code yX10_trouble cX10_trouble 1 (some .int) ∈ lw_tbl := tk_6 (j := 9) rfl
set_option maxRecDepth 20000 in
theorem tw_1664 : Cond.selects RX10 yX10_trouble yX10_trouble ∈ lw_tbl := tk_6 (j := 8) rfl
set_option maxRecDepth 20000 in
theorem tw_1665 : Cond.instanceMethod yX10_trouble ∈ lw_tbl := tk_6 (j := 7) rfl
set_option maxRecDepth 20000 in
theorem tw_1666 : Cond.methodLink RL 231 yX10_trouble ∈ lw_tbl := tk_6 (j := 6) rfl
set_option maxRecDepth 20000 in
theorem tw_1667 : Cond.code yX11_trouble cX11_trouble 1 (some .int) ∈ lw_tbl := tk_8 (j := 232) rfl
set_option maxRecDepth 20000 in
theorem tw_1668 : Cond.selects RX11 yX11_trouble yX11_trouble ∈ lw_tbl := tk_8 (j := 231) rfl
set_option maxRecDepth 20000 in
theorem tw_1669 : Cond.instanceMethod yX11_trouble ∈ lw_tbl := tk_8 (j := 230) rfl
set_option maxRecDepth 20000 in
theorem tw_1670 : Cond.methodLink RL 234 yX11_trouble ∈ lw_tbl := tk_8 (j := 229) rfl
