abbrev uJ0_charAt_5068e : uT := (RJ0, cJ0_charAt_5068e, 2, (some .char), 4)
abbrev uJ0_checkIndex_df160 : uT := (RJ0, cJ0_checkIndex_df160, 2, none, 2)
abbrev uJ0_coder_7d493 : uT := (RJ0, cJ0_coder_7d493, 1, (some .byte), 1)
abbrev uJ0_isLatin1_aae02 : uT := (RJ0, cJ0_isLatin1_aae02, 1, (some .boolean), 1)
abbrev uJ0_length_8abf5 : uT := (RJ0, cJ0_length_8abf5, 1, (some .int), 2)
abbrev uJ1_charAt_3b067 : uT := (RJ1, cJ1_charAt_3b067, 2, (some .char), 3)
abbrev uJ3_checkIndex_8e157 : uT := (RJ3, cJ3_checkIndex_8e157, 3, (some .int), 1)
abbrev uJ6_bitCount_0f7a4 : uT := (RJ6, cJ6_bitCount_0f7a4, 1, (some .int), 1)
abbrev uX0_aim : uT := (RX0, cX0_aim, 8, none, 2)
abbrev uX0_clearFrom : uT := (RX0, cX0_clearFrom, 11, none, 1)
abbrev uX0_climb : uT := (RX0, cX0_climb, 5, none, 3)
abbrev uX0_comesFirst : uT := (RX0, cX0_comesFirst, 8, (some .boolean), 1)
abbrev uX0_entering : uT := (RX0, cX0_entering, 5, (some .int), 1)
abbrev uX0_fillRows : uT := (RX0, cX0_fillRows, 3, none, 2)
abbrev uX0_findShare : uT := (RX0, cX0_findShare, 1, none, 5)
abbrev uX0_findTogether : uT := (RX0, cX0_findTogether, 5, none, 5)
abbrev uX0_isMeant : uT := (RX0, cX0_isMeant, 3, (some .boolean), 1)
abbrev uX0_isMixed : uT := (RX0, cX0_isMixed, 1, (some .boolean), 5)
abbrev uX0_leaving : uT := (RX0, cX0_leaving, 4, (some .int), 2)
abbrev uX0_nameColumns : uT := (RX0, cX0_nameColumns, 2, none, 3)
abbrev uX0_pivot : uT := (RX0, cX0_pivot, 7, none, 2)
abbrev uX0_solve : uT := (RX0, cX0_solve, 2, none, 4)
abbrev uX10_act : uT := (RX10, cX10_act, 3, (some .int), 2)
abbrev uX10_answer : uT := (RX10, cX10_answer, 3, (some .int), 4)
abbrev uX10_back : uT := (RX10, cX10_back, 2, (some .boolean), 4)
abbrev uX10_bars : uT := (RX10, cX10_bars, 1, (some .int), 4)
abbrev uX10_bitAt : uT := (RX10, cX10_bitAt, 4, (some .int), 1)
abbrev uX10_book : uT := (RX10, cX10_book, 2, (some .int), 11)
abbrev uX10_can : uT := (RX10, cX10_can, 2, (some .int), 2)
abbrev uX10_coins : uT := (RX10, cX10_coins, 3, (some .int), 3)
abbrev uX10_colours : uT := (RX10, cX10_colours, 1, (some .int), 33)
abbrev uX10_core : uT := (RX10, cX10_core, 1, (some .int), 3)
abbrev uX10_corners : uT := (RX10, cX10_corners, 1, (some .int), 2)
abbrev uX10_critical : uT := (RX10, cX10_critical, 1, (some .int), 33)
abbrev uX10_cycle : uT := (RX10, cX10_cycle, 3, (some .int), 5)
abbrev uX10_cycles : uT := (RX10, cX10_cycles, 1, (some .int), 5)
abbrev uX10_denied : uT := (RX10, cX10_denied, 2, (some .boolean), 1)
abbrev uX10_disturbed : uT := (RX10, cX10_disturbed, 1, (some .int), 3)
abbrev uX10_done : uT := (RX10, cX10_done, 1, (some .boolean), 1)
abbrev uX10_drop : uT := (RX10, cX10_drop, 2, (some .boolean), 3)
abbrev uX10_excess : uT := (RX10, cX10_excess, 2, (some .int), 4)
abbrev uX10_extend : uT := (RX10, cX10_extend, 3, (some .int), 4)
abbrev uX10_fair : uT := (RX10, cX10_fair, 4, (some .int), 4)
abbrev uX10_fault : uT := (RX10, cX10_fault, 1, (some .int), 1)
abbrev uX10_feed : uT := (RX10, cX10_feed, 6, (some .int), 2)
abbrev uX10_flip : uT := (RX10, cX10_flip, 2, (some .boolean), 3)
abbrev uX10_forced : uT := (RX10, cX10_forced, 2, (some .int), 2)
abbrev uX10_forget : uT := (RX10, cX10_forget, 2, (some .boolean), 3)
abbrev uX10_game : uT := (RX10, cX10_game, 1, (some .int), 3)
abbrev uX10_hidden : uT := (RX10, cX10_hidden, 1, (some .int), 4)
abbrev uX10_isBit : uT := (RX10, cX10_isBit, 1, (some .boolean), 1)
abbrev uX10_level : uT := (RX10, cX10_level, 3, (some .int), 6)
abbrev uX10_look : uT := (RX10, cX10_look, 3, (some .int), 2)
abbrev uX10_machine : uT := (RX10, cX10_machine, 4, (some .int), 72)
abbrev uX10_mark : uT := (RX10, cX10_mark, 1, (some .int), 3)
abbrev uX10_memory : uT := (RX10, cX10_memory, 1, (some .int), 72)
abbrev uX10_noBook : uT := (RX10, cX10_noBook, 1, (some .boolean), 1)
abbrev uX10_ones : uT := (RX10, cX10_ones, 1, (some .int), 33)
abbrev uX10_put : uT := (RX10, cX10_put, 3, none, 1)
abbrev uX10_redo : uT := (RX10, cX10_redo, 1, (some .boolean), 4)
abbrev uX10_refused : uT := (RX10, cX10_refused, 2, (some .int), 1)
abbrev uX10_same : uT := (RX10, cX10_same, 2, (some .int), 3)
abbrev uX10_share : uT := (RX10, cX10_share, 2, (some .int), 6)
abbrev uX10_shift : uT := (RX10, cX10_shift, 5, (some .boolean), 3)
abbrev uX10_size : uT := (RX10, cX10_size, 2, (some .int), 1)
abbrev uX10_spare : uT := (RX10, cX10_spare, 1, (some .int), 33)
abbrev uX10_square : uT := (RX10, cX10_square, 3, (some .int), 2)
abbrev uX10_stake : uT := (RX10, cX10_stake, 4, (some .boolean), 3)
abbrev uX10_times : uT := (RX10, cX10_times, 3, (some .int), 3)
abbrev uX10_together : uT := (RX10, cX10_together, 7, (some .int), 6)
abbrev uX10_told : uT := (RX10, cX10_told, 2, (some .int), 1)
abbrev uX10_trouble : uT := (RX10, cX10_trouble, 1, (some .int), 1)
abbrev uX10_undo : uT := (RX10, cX10_undo, 1, (some .boolean), 4)
abbrev uX10_ways : uT := (RX10, cX10_ways, 1, (some .int), 2)
abbrev uX10_where : uT := (RX10, cX10_where, 1, (some .int), 1)
abbrev uX10_widest : uT := (RX10, cX10_widest, 1, (some .int), 5)
abbrev uX10_wins : uT := (RX10, cX10_wins, 1, (some .int), 2)
abbrev uX10_worst : uT := (RX10, cX10_worst, 1, (some .int), 4)
abbrev uX10_worstAt : uT := (RX10, cX10_worstAt, 1, (some .int), 4)
abbrev uX11_act : uT := (RX11, cX11_act, 3, (some .int), 2)
abbrev uX11_allLines : uT := (RX11, cX11_allLines, 1, (some .int), 1)
abbrev uX11_allRays : uT := (RX11, cX11_allRays, 1, (some .int), 1)
abbrev uX11_answer : uT := (RX11, cX11_answer, 3, (some .int), 4)
abbrev uX11_areSquare : uT := (RX11, cX11_areSquare, 5, (some .boolean), 1)
abbrev uX11_back : uT := (RX11, cX11_back, 2, (some .boolean), 2)
abbrev uX11_bars : uT := (RX11, cX11_bars, 1, (some .int), 4)
abbrev uX11_begins : uT := (RX11, cX11_begins, 4, (some .boolean), 6)
abbrev uX11_bits : uT := (RX11, cX11_bits, 3, (some .int), 1)
abbrev uX11_book : uT := (RX11, cX11_book, 3, (some .int), 11)
abbrev uX11_bounding : uT := (RX11, cX11_bounding, 12, (some .int), 2)
abbrev uX11_can : uT := (RX11, cX11_can, 2, (some .int), 3)
abbrev uX11_canLines : uT := (RX11, cX11_canLines, 4, (some .boolean), 2)
abbrev uX11_cell : uT := (RX11, cX11_cell, 2, (some .int), 1)
abbrev uX11_coins : uT := (RX11, cX11_coins, 3, (some .int), 4)
abbrev uX11_colour : uT := (RX11, cX11_colour, 9, none, 3)
abbrev uX11_colours : uT := (RX11, cX11_colours, 1, (some .int), 4)
abbrev uX11_comma : uT := (RX11, cX11_comma, 1, (some .boolean), 3)
abbrev uX11_common : uT := (RX11, cX11_common, 10, (some .long), 1)
abbrev uX11_copy : uT := (RX11, cX11_copy, 6, none, 1)
abbrev uX11_core : uT := (RX11, cX11_core, 3, (some .int), 3)
abbrev uX11_corners : uT := (RX11, cX11_corners, 1, (some .int), 3)
abbrev uX11_critical : uT := (RX11, cX11_critical, 3, (some .int), 5)
abbrev uX11_cycle : uT := (RX11, cX11_cycle, 3, (some .int), 4)
abbrev uX11_cycleOf : uT := (RX11, cX11_cycleOf, 4, (some .int), 3)
abbrev uX11_cycles : uT := (RX11, cX11_cycles, 1, (some .int), 4)
abbrev uX11_did : uT := (RX11, cX11_did, 6, (some .boolean), 3)
abbrev uX11_disturbed : uT := (RX11, cX11_disturbed, 5, (some .int), 2)
abbrev uX11_doesExtend : uT := (RX11, cX11_doesExtend, 5, (some .boolean), 3)
abbrev uX11_drop : uT := (RX11, cX11_drop, 2, (some .boolean), 4)
abbrev uX11_excess : uT := (RX11, cX11_excess, 2, (some .int), 3)
abbrev uX11_excessOf : uT := (RX11, cX11_excessOf, 6, (some .int), 2)
abbrev uX11_extend : uT := (RX11, cX11_extend, 3, (some .int), 4)
abbrev uX11_fair : uT := (RX11, cX11_fair, 3, (some .int), 4)
abbrev uX11_fault : uT := (RX11, cX11_fault, 1, (some .int), 1)
abbrev uX11_feed : uT := (RX11, cX11_feed, 8, (some .int), 1)
abbrev uX11_fewestStates : uT := (RX11, cX11_fewestStates, 3, (some .int), 61)
abbrev uX11_find : uT := (RX11, cX11_find, 4, (some .int), 1)
abbrev uX11_fitsAll : uT := (RX11, cX11_fitsAll, 5, (some .boolean), 2)
abbrev uX11_fitted : uT := (RX11, cX11_fitted, 4, (some .int), 1)
abbrev uX11_fittingAnswer : uT := (RX11, cX11_fittingAnswer, 4, (some .int), 3)
abbrev uX11_flip : uT := (RX11, cX11_flip, 9, (some .boolean), 4)
abbrev uX11_forced : uT := (RX11, cX11_forced, 5, (some .int), 2)
abbrev uX11_forget : uT := (RX11, cX11_forget, 9, (some .boolean), 4)
abbrev uX11_game : uT := (RX11, cX11_game, 3, (some .int), 2)
abbrev uX11_goesAway : uT := (RX11, cX11_goesAway, 4, none, 1)
abbrev uX11_goesUp : uT := (RX11, cX11_goesUp, 5, none, 3)
abbrev uX11_good : uT := (RX11, cX11_good, 1, none, 1)
abbrev uX11_has : uT := (RX11, cX11_has, 2, (some .boolean), 1)
abbrev uX11_hasColour : uT := (RX11, cX11_hasColour, 2, (some .boolean), 4)
abbrev uX11_hidden : uT := (RX11, cX11_hidden, 1, (some .int), 4)
abbrev uX11_hiddenMany : uT := (RX11, cX11_hiddenMany, 1, (some .int), 1)
abbrev uX11_isBit : uT := (RX11, cX11_isBit, 1, (some .boolean), 1)
abbrev uX11_isCycle : uT := (RX11, cX11_isCycle, 8, (some .boolean), 2)
abbrev uX11_isDigit : uT := (RX11, cX11_isDigit, 1, (some .boolean), 1)
abbrev uX11_isLook : uT := (RX11, cX11_isLook, 2, (some .boolean), 2)
abbrev uX11_isMixed : uT := (RX11, cX11_isMixed, 1, (some .boolean), 4)
abbrev uX11_isNot : uT := (RX11, cX11_isNot, 2, (some .boolean), 1)
abbrev uX11_isOutcome : uT := (RX11, cX11_isOutcome, 3, (some .boolean), 3)
abbrev uX11_isRay : uT := (RX11, cX11_isRay, 2, (some .boolean), 2)
abbrev uX11_isSet : uT := (RX11, cX11_isSet, 2, (some .boolean), 2)
abbrev uX11_isSmall : uT := (RX11, cX11_isSmall, 1, (some .boolean), 1)
abbrev uX11_isSoFar : uT := (RX11, cX11_isSoFar, 8, (some .boolean), 2)
abbrev uX11_isWord : uT := (RX11, cX11_isWord, 4, (some .boolean), 5)
abbrev uX11_keep : uT := (RX11, cX11_keep, 11, none, 2)
abbrev uX11_lawLine : uT := (RX11, cX11_lawLine, 2, none, 8)
abbrev uX11_layCorners : uT := (RX11, cX11_layCorners, 5, none, 2)
abbrev uX11_layTab : uT := (RX11, cX11_layTab, 6, none, 2)
abbrev uX11_led : uT := (RX11, cX11_led, 5, (some .int), 4)
abbrev uX11_less : uT := (RX11, cX11_less, 3, (some .int), 1)
abbrev uX11_level : uT := (RX11, cX11_level, 5, (some .int), 5)
abbrev uX11_lineLine : uT := (RX11, cX11_lineLine, 5, none, 9)
abbrev uX11_linesBy : uT := (RX11, cX11_linesBy, 6, (some .int), 1)
abbrev uX11_look : uT := (RX11, cX11_look, 3, (some .int), 3)
abbrev uX11_lowest : uT := (RX11, cX11_lowest, 7, (some .int), 2)
abbrev uX11_machine : uT := (RX11, cX11_machine, 5, (some .int), 62)
abbrev uX11_mark : uT := (RX11, cX11_mark, 1, (some .int), 2)
abbrev uX11_memory : uT := (RX11, cX11_memory, 1, (some .int), 62)
abbrev uX11_mustComma : uT := (RX11, cX11_mustComma, 1, none, 4)
abbrev uX11_mustName : uT := (RX11, cX11_mustName, 2, none, 6)
abbrev uX11_named : uT := (RX11, cX11_named, 5, (some .int), 7)
abbrev uX11_newNames : uT := (RX11, cX11_newNames, 7, none, 7)
abbrev uX11_next : uT := (RX11, cX11_next, 4, none, 2)
abbrev uX11_no : uT := (RX11, cX11_no, 2, (some .int), 1)
abbrev uX11_noCoins : uT := (RX11, cX11_noCoins, 2, none, 1)
abbrev uX11_number : uT := (RX11, cX11_number, 4, (some .int), 3)
abbrev uX11_ones : uT := (RX11, cX11_ones, 1, (some .int), 4)
abbrev uX11_onesOf : uT := (RX11, cX11_onesOf, 4, (some .int), 1)
abbrev uX11_outcomes : uT := (RX11, cX11_outcomes, 2, (some .int), 1)
abbrev uX11_paid : uT := (RX11, cX11_paid, 4, (some .int), 2)
abbrev uX11_pass : uT := (RX11, cX11_pass, 2, none, 7)
abbrev uX11_passed : uT := (RX11, cX11_passed, 4, (some .int), 8)
abbrev uX11_rayLine : uT := (RX11, cX11_rayLine, 7, none, 5)
abbrev uX11_readLine : uT := (RX11, cX11_readLine, 1, none, 10)
abbrev uX11_redo : uT := (RX11, cX11_redo, 2, (some .boolean), 3)
abbrev uX11_runLine : uT := (RX11, cX11_runLine, 5, none, 8)
abbrev uX11_same : uT := (RX11, cX11_same, 2, (some .int), 3)
abbrev uX11_sameOf : uT := (RX11, cX11_sameOf, 3, (some .int), 1)
abbrev uX11_see : uT := (RX11, cX11_see, 2, (some .int), 1)
abbrev uX11_setLine : uT := (RX11, cX11_setLine, 8, none, 9)
abbrev uX11_share : uT := (RX11, cX11_share, 2, (some .int), 5)
abbrev uX11_shift : uT := (RX11, cX11_shift, 5, (some .boolean), 4)
abbrev uX11_size : uT := (RX11, cX11_size, 2, (some .int), 2)
abbrev uX11_spare : uT := (RX11, cX11_spare, 3, (some .int), 5)
abbrev uX11_square : uT := (RX11, cX11_square, 3, (some .int), 3)
abbrev uX11_stake : uT := (RX11, cX11_stake, 4, (some .boolean), 4)
abbrev uX11_takes : uT := (RX11, cX11_takes, 2, (some .boolean), 6)
abbrev uX11_tellsAll (K : Nat) : uT := (RX11, cX11_tellsAll, 8, (some .boolean), K)
abbrev uX11_times : uT := (RX11, cX11_times, 3, (some .int), 4)
abbrev uX11_together : uT := (RX11, cX11_together, 13, (some .int), 5)
abbrev uX11_trouble : uT := (RX11, cX11_trouble, 1, (some .int), 1)
abbrev uX11_turnOver : uT := (RX11, cX11_turnOver, 9, none, 2)
abbrev uX11_undo : uT := (RX11, cX11_undo, 2, (some .boolean), 3)
abbrev uX11_ways : uT := (RX11, cX11_ways, 3, (some .int), 2)
abbrev uX11_where : uT := (RX11, cX11_where, 1, (some .int), 1)
abbrev uX11_widest : uT := (RX11, cX11_widest, 5, (some .int), 3)
abbrev uX11_wins : uT := (RX11, cX11_wins, 1, (some .int), 3)
abbrev uX11_winsOf : uT := (RX11, cX11_winsOf, 4, (some .int), 2)
abbrev uX11_within : uT := (RX11, cX11_within, 3, (some .boolean), 1)
abbrev uX11_worst : uT := (RX11, cX11_worst, 1, (some .int), 4)
abbrev uX11_worstAt : uT := (RX11, cX11_worstAt, 1, (some .int), 4)
abbrev uX11_worstHidden : uT := (RX11, cX11_worstHidden, 3, (some .int), 3)
abbrev uX11_wrong : uT := (RX11, cX11_wrong, 3, none, 1)
abbrev uX1_clear : uT := (RX1, cX1_clear, 2, none, 1)
abbrev uX2_commonPart : uT := (RX2, cX2_commonPart, 11, (some .long), 1)
abbrev uX2_part : uT := (RX2, cX2_part, 2, (some .int), 1)
abbrev uX2_set : uT := (RX2, cX2_set, 7, none, 2)
abbrev uX3_colour (K : Nat) : uT := (RX3, cX3_colour, 9, none, K)
abbrev uX3_countColours : uT := (RX3, cX3_countColours, 2, (some .int), 31)
abbrev uX3_findCorners : uT := (RX3, cX3_findCorners, 3, none, 2)
abbrev uX3_findCornersOf : uT := (RX3, cX3_findCornersOf, 7, none, 1)
abbrev uX3_hasRay : uT := (RX3, cX3_hasRay, 2, (some .boolean), 1)
abbrev uX3_mostMet : uT := (RX3, cX3_mostMet, 5, (some .int), 2)
abbrev uX3_open : uT := (RX3, cX3_open, 4, none, 3)
abbrev uX3_product : uT := (RX3, cX3_product, 5, (some .int), 1)
abbrev uX3_work : uT := (RX3, cX3_work, 3, none, 32)
abbrev uX4_begin : uT := (RX4, cX4_begin, 4, none, 2)
abbrev uX4_goBack : uT := (RX4, cX4_goBack, 2, (some .boolean), 3)
abbrev uX4_keep : uT := (RX4, cX4_keep, 1, (some .int), 2)
abbrev uX4_leaveOldest : uT := (RX4, cX4_leaveOldest, 4, none, 1)
abbrev uX4_makeAgain : uT := (RX4, cX4_makeAgain, 1, (some .boolean), 3)
abbrev uX4_open : uT := (RX4, cX4_open, 1, none, 1)
abbrev uX4_takeBack : uT := (RX4, cX4_takeBack, 1, (some .boolean), 3)
abbrev uX4_tellMove : uT := (RX4, cX4_tellMove, 5, none, 1)
abbrev uX5_holds : uT := (RX5, cX5_holds, 2, (some .boolean), 1)
abbrev uX5_leastBroken : uT := (RX5, cX5_leastBroken, 3, (some .int), 2)
abbrev uX5_mostHeld : uT := (RX5, cX5_mostHeld, 3, (some .int), 2)
abbrev uX5_open : uT := (RX5, cX5_open, 5, none, 3)
abbrev uX5_soLines : uT := (RX5, cX5_soLines, 5, (some .int), 2)
abbrev uX5_spread : uT := (RX5, cX5_spread, 3, none, 1)
abbrev uX5_valueOf : uT := (RX5, cX5_valueOf, 4, (some .int), 1)
abbrev uX6_goesOn : uT := (RX6, cX6_goesOn, 1, (some .boolean), 4)
abbrev uX6_indexOf : uT := (RX6, cX6_indexOf, 4, (some .int), 1)
abbrev uX6_isDigit : uT := (RX6, cX6_isDigit, 1, (some .boolean), 1)
abbrev uX6_isLetter : uT := (RX6, cX6_isLetter, 1, (some .boolean), 1)
abbrev uX6_isName : uT := (RX6, cX6_isName, 1, (some .boolean), 6)
abbrev uX6_nameAmong : uT := (RX6, cX6_nameAmong, 4, (some .int), 7)
abbrev uX6_needNewName : uT := (RX6, cX6_needNewName, 2, (some .boolean), 7)
abbrev uX6_needWhole : uT := (RX6, cX6_needWhole, 3, (some .boolean), 2)
abbrev uX6_next : uT := (RX6, cX6_next, 1, none, 2)
abbrev uX6_pass : uT := (RX6, cX6_pass, 2, (some .boolean), 3)
abbrev uX6_passWord : uT := (RX6, cX6_passWord, 2, (some .boolean), 6)
abbrev uX6_read : uT := (RX6, cX6_read, 4, none, 10)
abbrev uX6_readLaw : uT := (RX6, cX6_readLaw, 1, (some .boolean), 7)
abbrev uX6_readLine : uT := (RX6, cX6_readLine, 1, (some .boolean), 9)
abbrev uX6_readNames : uT := (RX6, cX6_readNames, 5, (some .boolean), 8)
abbrev uX6_readParity : uT := (RX6, cX6_readParity, 4, (some .boolean), 8)
abbrev uX6_readRay : uT := (RX6, cX6_readRay, 4, (some .boolean), 4)
abbrev uX6_readRun : uT := (RX6, cX6_readRun, 3, (some .boolean), 8)
abbrev uX6_readSet : uT := (RX6, cX6_readSet, 3, (some .boolean), 8)
abbrev uX6_readTimes : uT := (RX6, cX6_readTimes, 4, (some .boolean), 4)
abbrev uX6_refuse : uT := (RX6, cX6_refuse, 2, (some .boolean), 1)
abbrev uX6_says : uT := (RX6, cX6_says, 3, (some .boolean), 5)
abbrev uX6_takeSign : uT := (RX6, cX6_takeSign, 2, none, 1)
abbrev uX7_greatest : uT := (RX7, cX7_greatest, 3, (some .int), 4)
abbrev uX7_hangsTogether : uT := (RX7, cX7_hangsTogether, 6, (some .boolean), 2)
abbrev uX7_isRing : uT := (RX7, cX7_isRing, 7, (some .boolean), 3)
abbrev uX7_looksOf : uT := (RX7, cX7_looksOf, 2, (some .int), 1)
abbrev uX7_number : uT := (RX7, cX7_number, 3, (some .int), 4)
abbrev uX7_ringAt : uT := (RX7, cX7_ringAt, 4, (some .int), 4)
abbrev uX7_surplus : uT := (RX7, cX7_surplus, 7, (some .int), 2)
abbrev uX8_alike : uT := (RX8, cX8_alike, 3, (some .int), 1)
abbrev uX8_cellOf : uT := (RX8, cX8_cellOf, 4, (some .int), 1)
abbrev uX8_clearCoins : uT := (RX8, cX8_clearCoins, 2, none, 1)
abbrev uX8_extending : uT := (RX8, cX8_extending, 5, (some .int), 3)
abbrev uX8_firstDisturbed : uT := (RX8, cX8_firstDisturbed, 5, (some .int), 2)
abbrev uX8_fitting : uT := (RX8, cX8_fitting, 3, (some .int), 3)
abbrev uX8_fittingAt : uT := (RX8, cX8_fittingAt, 4, (some .int), 3)
abbrev uX8_hasLook : uT := (RX8, cX8_hasLook, 2, (some .boolean), 1)
abbrev uX8_hasOutcome : uT := (RX8, cX8_hasOutcome, 3, (some .boolean), 2)
abbrev uX8_hasPair : uT := (RX8, cX8_hasPair, 2, (some .boolean), 2)
abbrev uX8_hasSet : uT := (RX8, cX8_hasSet, 2, (some .boolean), 1)
abbrev uX8_hiddenAnswers : uT := (RX8, cX8_hiddenAnswers, 1, (some .int), 1)
abbrev uX8_isLookedAt : uT := (RX8, cX8_isLookedAt, 3, (some .boolean), 1)
abbrev uX8_leastPaid : uT := (RX8, cX8_leastPaid, 3, (some .int), 3)
abbrev uX8_merge : uT := (RX8, cX8_merge, 3, none, 2)
abbrev uX8_missed : uT := (RX8, cX8_missed, 4, (some .int), 2)
abbrev uX8_move : uT := (RX8, cX8_move, 4, none, 1)
abbrev uX8_onesOf : uT := (RX8, cX8_onesOf, 4, (some .int), 1)
abbrev uX8_open : uT := (RX8, cX8_open, 2, none, 2)
abbrev uX8_outcomes : uT := (RX8, cX8_outcomes, 2, (some .int), 1)
abbrev uX8_pay : uT := (RX8, cX8_pay, 4, (some .int), 2)
abbrev uX8_possible : uT := (RX8, cX8_possible, 3, (some .int), 1)
abbrev uX8_putTogether : uT := (RX8, cX8_putTogether, 8, none, 1)
abbrev uX8_remove : uT := (RX8, cX8_remove, 4, none, 1)
abbrev uX8_restore : uT := (RX8, cX8_restore, 2, none, 2)
abbrev uX8_save : uT := (RX8, cX8_save, 2, none, 1)
abbrev uX8_swap : uT := (RX8, cX8_swap, 5, none, 1)
abbrev uX8_turn : uT := (RX8, cX8_turn, 4, none, 2)
abbrev uX8_winnings : uT := (RX8, cX8_winnings, 3, (some .int), 1)
abbrev uX9_entry : uT := (RX9, cX9_entry, 5, (some .int), 1)
abbrev uX9_open : uT := (RX9, cX9_open, 5, none, 1)
abbrev uX9_tell (K : Nat) : uT := (RX9, cX9_tell, 11, (some .int), K)
abbrev uX9_tellOn (K : Nat) : uT := (RX9, cX9_tellOn, 5, (some .int), K)
abbrev uX9_work : uT := (RX9, cX9_work, 3, none, 71)
set_option maxRecDepth 100000 in
theorem lk_J0_335 : mLk RJ0 335 yJ0_coder_7d493 uJ0_coder_7d493 0 := ⟨tw_4, tw_5, tw_6, by decide +kernel, Nat.le_of_ble_eq_true rfl⟩
set_option maxRecDepth 100000 in
theorem cl_J0_335 {g : gT} {u : uT} {pc : Nat} {lv st : List Value} {h : mh_T} {Q : Option Value → mh_T → Prop} {i : Nat} (hu : u.1 = RJ0) (hK : 1 < u.2.2.2.2) (hi : i < nJS) (hd : decode u.2.1 pc = .ok (.invokevirtual 335, 3)) (hst : (st.map fun v => v.category).sum ≤ 8) (hM : MC g yJ0_coder_7d493 uJ0_coder_7d493 [.ref (1000 + i)] h (fun v h' => ME g u (pc + 3) lv (v.toList ++ st) h' Q)) : ME g u pc lv (.ref (1000 + i) :: st) h Q := m_callVS (As := []) (n := 0) hd (by rw [hu]; exact lk_J0_335) tw_7 tw_8 hi rfl hK hst hM
set_option maxRecDepth 100000 in
theorem lk_J0_492 : mLk RJ0 492 yJ0_isLatin1_aae02 uJ0_isLatin1_aae02 0 := ⟨tw_9, tw_10, tw_6, by decide +kernel, Nat.le_of_ble_eq_true rfl⟩
set_option maxRecDepth 100000 in
theorem cl_J0_492 {g : gT} {u : uT} {pc : Nat} {lv st : List Value} {h : mh_T} {Q : Option Value → mh_T → Prop} {i : Nat} (hu : u.1 = RJ0) (hK : 1 < u.2.2.2.2) (hi : i < nJS) (hd : decode u.2.1 pc = .ok (.invokevirtual 492, 3)) (hst : (st.map fun v => v.category).sum ≤ 8) (hM : MC g yJ0_isLatin1_aae02 uJ0_isLatin1_aae02 [.ref (1000 + i)] h (fun v h' => ME g u (pc + 3) lv (v.toList ++ st) h' Q)) : ME g u pc lv (.ref (1000 + i) :: st) h Q := m_callVS (As := []) (n := 0) hd (by rw [hu]; exact lk_J0_492) tw_11 tw_12 hi rfl hK hst hM
set_option maxRecDepth 100000 in
theorem lk_J0_495 : mLk RJ0 495 yJ1_charAt_3b067 uJ1_charAt_3b067 2 := ⟨tw_13, tw_14, tw_15, by decide +kernel, Nat.le_of_ble_eq_true rfl⟩
set_option maxRecDepth 100000 in
theorem cl_J0_495 {g : gT} {u : uT} {pc : Nat} {lv st : List Value} {h : mh_T} {Q : Option Value → mh_T → Prop} {a1 a2 : Value} (hu : u.1 = RJ0) (hK : 3 < u.2.2.2.2) (hd : decode u.2.1 pc = .ok (.invokestatic 495, 3)) (hst : (st.map fun v => v.category).sum ≤ 8) (hM : MC g yJ1_charAt_3b067 uJ1_charAt_3b067 [a1, a2] h (fun v h' => ME g u (pc + 3) lv (v.toList ++ st) h' Q)) : ME g u pc lv (a2 :: a1 :: st) h Q := m_callS (As := [a1, a2]) (n := 2) hd (by rw [hu]; exact lk_J0_495) tw_16 rfl hK hst hM
set_option maxRecDepth 100000 in
theorem lk_J0_1059 : mLk RJ0 1059 yJ3_checkIndex_8e157 uJ3_checkIndex_8e157 3 := ⟨tw_20, tw_21, tw_22, by decide +kernel, Nat.le_of_ble_eq_true rfl⟩
set_option maxRecDepth 100000 in
theorem cl_J0_1059 {g : gT} {u : uT} {pc : Nat} {lv st : List Value} {h : mh_T} {Q : Option Value → mh_T → Prop} {a1 a2 a3 : Value} (hu : u.1 = RJ0) (hK : 1 < u.2.2.2.2) (hd : decode u.2.1 pc = .ok (.invokestatic 1059, 3)) (hst : (st.map fun v => v.category).sum ≤ 8) (hM : MC g yJ3_checkIndex_8e157 uJ3_checkIndex_8e157 [a1, a2, a3] h (fun v h' => ME g u (pc + 3) lv (v.toList ++ st) h' Q)) : ME g u pc lv (a3 :: a2 :: a1 :: st) h Q := m_callS (As := [a1, a2, a3]) (n := 3) hd (by rw [hu]; exact lk_J0_1059) tw_23 rfl hK hst hM
set_option maxRecDepth 100000 in
theorem lk_J1_9 : mLk RJ1 9 yJ0_checkIndex_df160 uJ0_checkIndex_df160 2 := ⟨tw_24, tw_25, tw_6, by decide +kernel, Nat.le_of_ble_eq_true rfl⟩
set_option maxRecDepth 100000 in
theorem cl_J1_9 {g : gT} {u : uT} {pc : Nat} {lv st : List Value} {h : mh_T} {Q : Option Value → mh_T → Prop} {a1 a2 : Value} (hu : u.1 = RJ1) (hK : 2 < u.2.2.2.2) (hd : decode u.2.1 pc = .ok (.invokestatic 9, 3)) (hst : (st.map fun v => v.category).sum ≤ 8) (hM : MC g yJ0_checkIndex_df160 uJ0_checkIndex_df160 [a1, a2] h (fun v h' => ME g u (pc + 3) lv (v.toList ++ st) h' Q)) : ME g u pc lv (a2 :: a1 :: st) h Q := m_callS (As := [a1, a2]) (n := 2) hd (by rw [hu]; exact lk_J1_9) tw_26 rfl hK hst hM
set_option maxRecDepth 100000 in
theorem gf_X8_24 {g : gT} {u : uT} {pc : Nat} {lv st : List Value} {h : mh_T} {Q : Option Value → mh_T → Prop} (hu : u.1 = RX8) (hd : decode u.2.1 pc = .ok (.getfield 24, 3)) (kk : ME g u (pc + 3) lv (.int (mI h 2 0) :: st) h Q) : ME g u pc lv (.ref 2 :: st) h Q := m_getI (ci := 1) (k := 2) (j := 0) (q := (RX1, TX1, 16)) (ref := "NotAtOnce$Draft") hd rfl (by decide) (by decide) rfl rfl tinX1 tgX1 (by rw [hu]; exact tw_27) rfl rfl kk
set_option maxRecDepth 100000 in
theorem gf_X8_31 {g : gT} {u : uT} {pc : Nat} {lv st : List Value} {h : mh_T} {Q : Option Value → mh_T → Prop} (hu : u.1 = RX8) (hd : decode u.2.1 pc = .ok (.getfield 31, 3)) (kk : ME g u (pc + 3) lv (.int (mI h 2 1) :: st) h Q) : ME g u pc lv (.ref 2 :: st) h Q := m_getI (ci := 1) (k := 2) (j := 1) (q := (RX1, TX1, 16)) (ref := "NotAtOnce$Draft") hd rfl (by decide) (by decide) rfl rfl tinX1 tgX1 (by rw [hu]; exact tw_28) rfl rfl kk
set_option maxRecDepth 100000 in
theorem gf_X8_35 {g : gT} {u : uT} {pc : Nat} {lv st : List Value} {h : mh_T} {Q : Option Value → mh_T → Prop} (hu : u.1 = RX8) (hd : decode u.2.1 pc = .ok (.getfield 35, 3)) (kk : ME g u (pc + 3) lv (.int (mI h 2 3) :: st) h Q) : ME g u pc lv (.ref 2 :: st) h Q := m_getI (ci := 1) (k := 2) (j := 3) (q := (RX1, TX1, 16)) (ref := "NotAtOnce$Draft") hd rfl (by decide) (by decide) rfl rfl tinX1 tgX1 (by rw [hu]; exact tw_29) rfl rfl kk
set_option maxRecDepth 100000 in
theorem gf_X8_41 {g : gT} {u : uT} {pc : Nat} {lv st : List Value} {h : mh_T} {Q : Option Value → mh_T → Prop} (hu : u.1 = RX8) (hd : decode u.2.1 pc = .ok (.getfield 41, 3)) (kk : ME g u (pc + 3) lv (.ref 15 :: st) h Q) : ME g u pc lv (.ref 2 :: st) h Q := m_getR (k' := 15) (ci := 1) (k := 2) (j := 7) (q := (RX1, TX1, 16)) (ref := "NotAtOnce$Draft") hd rfl (by decide) (by decide) rfl rfl tinX1 tgX1 (by rw [hu]; exact tw_30) rfl rfl rfl (by decide) kk
set_option maxRecDepth 100000 in
theorem gf_X8_9 {g : gT} {u : uT} {pc : Nat} {lv st : List Value} {h : mh_T} {Q : Option Value → mh_T → Prop} (hu : u.1 = RX8) (hd : decode u.2.1 pc = .ok (.getfield 9, 3)) (kk : ME g u (pc + 3) lv (.ref 24 :: st) h Q) : ME g u pc lv (.ref 3 :: st) h Q := m_getR (k' := 24) (ci := 8) (k := 3) (j := 4) (q := (RX8, TX8, 8)) (ref := "NotAtOnce$Table") hd rfl (by decide) (by decide) rfl rfl tinX8 tgX8 (by rw [hu]; exact tw_31) rfl rfl rfl (by decide) kk
set_option maxRecDepth 100000 in
theorem gf_X8_48 {g : gT} {u : uT} {pc : Nat} {lv st : List Value} {h : mh_T} {Q : Option Value → mh_T → Prop} (hu : u.1 = RX8) (hd : decode u.2.1 pc = .ok (.getfield 48, 3)) (kk : ME g u (pc + 3) lv (.ref 16 :: st) h Q) : ME g u pc lv (.ref 2 :: st) h Q := m_getR (k' := 16) (ci := 1) (k := 2) (j := 8) (q := (RX1, TX1, 16)) (ref := "NotAtOnce$Draft") hd rfl (by decide) (by decide) rfl rfl tinX1 tgX1 (by rw [hu]; exact tw_32) rfl rfl rfl (by decide) kk
set_option maxRecDepth 100000 in
theorem gf_X8_15 {g : gT} {u : uT} {pc : Nat} {lv st : List Value} {h : mh_T} {Q : Option Value → mh_T → Prop} (hu : u.1 = RX8) (hd : decode u.2.1 pc = .ok (.getfield 15, 3)) (kk : ME g u (pc + 3) lv (.ref 25 :: st) h Q) : ME g u pc lv (.ref 3 :: st) h Q := m_getR (k' := 25) (ci := 8) (k := 3) (j := 5) (q := (RX8, TX8, 8)) (ref := "NotAtOnce$Table") hd rfl (by decide) (by decide) rfl rfl tinX8 tgX8 (by rw [hu]; exact tw_33) rfl rfl rfl (by decide) kk
set_option maxRecDepth 100000 in
theorem gf_X8_49 {g : gT} {u : uT} {pc : Nat} {lv st : List Value} {h : mh_T} {Q : Option Value → mh_T → Prop} (hu : u.1 = RX8) (hd : decode u.2.1 pc = .ok (.getfield 49, 3)) (kk : ME g u (pc + 3) lv (.ref 17 :: st) h Q) : ME g u pc lv (.ref 2 :: st) h Q := m_getR (k' := 17) (ci := 1) (k := 2) (j := 9) (q := (RX1, TX1, 16)) (ref := "NotAtOnce$Draft") hd rfl (by decide) (by decide) rfl rfl tinX1 tgX1 (by rw [hu]; exact tw_34) rfl rfl rfl (by decide) kk
set_option maxRecDepth 100000 in
theorem gf_X8_18 {g : gT} {u : uT} {pc : Nat} {lv st : List Value} {h : mh_T} {Q : Option Value → mh_T → Prop} (hu : u.1 = RX8) (hd : decode u.2.1 pc = .ok (.getfield 18, 3)) (kk : ME g u (pc + 3) lv (.ref 26 :: st) h Q) : ME g u pc lv (.ref 3 :: st) h Q := m_getR (k' := 26) (ci := 8) (k := 3) (j := 6) (q := (RX8, TX8, 8)) (ref := "NotAtOnce$Table") hd rfl (by decide) (by decide) rfl rfl tinX8 tgX8 (by rw [hu]; exact tw_35) rfl rfl rfl (by decide) kk
set_option maxRecDepth 100000 in
theorem gf_X8_53 {g : gT} {u : uT} {pc : Nat} {lv st : List Value} {h : mh_T} {Q : Option Value → mh_T → Prop} (hu : u.1 = RX8) (hd : decode u.2.1 pc = .ok (.getfield 53, 3)) (kk : ME g u (pc + 3) lv (.int (mI h 3 3) :: st) h Q) : ME g u pc lv (.ref 3 :: st) h Q := m_getI (ci := 8) (k := 3) (j := 3) (q := (RX8, TX8, 8)) (ref := "NotAtOnce$Table") hd rfl (by decide) (by decide) rfl rfl tinX8 tgX8 (by rw [hu]; exact tw_36) rfl rfl kk
set_option maxRecDepth 100000 in
theorem pf_X8_30 {g : gT} {u : uT} {pc : Nat} {lv st : List Value} {h : mh_T} {Q : Option Value → mh_T → Prop} {v : Int32} (hu : u.1 = RX8) (hd : decode u.2.1 pc = .ok (.putfield 30, 3)) (kk : ME g u (pc + 3) lv st (wI h 3 0 v) Q) : ME g u pc lv (.int v :: .ref 3 :: st) h Q := m_putI (ty := .int) (ci := 8) (k := 3) (j := 0) (q := (RX8, TX8, 8)) (ref := "NotAtOnce$Table") hd rfl (by decide) (by decide) rfl rfl tinX8 tgX8 (by rw [hu]; exact tw_37) rfl tyX8 tyX8_ok nmX8 rfl (by decide +kernel) rfl rfl rfl kk
set_option maxRecDepth 100000 in
theorem pf_X8_34 {g : gT} {u : uT} {pc : Nat} {lv st : List Value} {h : mh_T} {Q : Option Value → mh_T → Prop} {v : Int32} (hu : u.1 = RX8) (hd : decode u.2.1 pc = .ok (.putfield 34, 3)) (kk : ME g u (pc + 3) lv st (wI h 3 1 v) Q) : ME g u pc lv (.int v :: .ref 3 :: st) h Q := m_putI (ty := .int) (ci := 8) (k := 3) (j := 1) (q := (RX8, TX8, 8)) (ref := "NotAtOnce$Table") hd rfl (by decide) (by decide) rfl rfl tinX8 tgX8 (by rw [hu]; exact tw_38) rfl tyX8 tyX8_ok nmX8 rfl (by decide +kernel) rfl rfl rfl kk
set_option maxRecDepth 100000 in
theorem pf_X8_38 {g : gT} {u : uT} {pc : Nat} {lv st : List Value} {h : mh_T} {Q : Option Value → mh_T → Prop} {v : Int32} (hu : u.1 = RX8) (hd : decode u.2.1 pc = .ok (.putfield 38, 3)) (kk : ME g u (pc + 3) lv st (wI h 3 2 v) Q) : ME g u pc lv (.int v :: .ref 3 :: st) h Q := m_putI (ty := .int) (ci := 8) (k := 3) (j := 2) (q := (RX8, TX8, 8)) (ref := "NotAtOnce$Table") hd rfl (by decide) (by decide) rfl rfl tinX8 tgX8 (by rw [hu]; exact tw_39) rfl tyX8 tyX8_ok nmX8 rfl (by decide +kernel) rfl rfl rfl kk
set_option maxRecDepth 100000 in
theorem lk_X8_50 : mLk RX8 50 yX8_clearCoins uX8_clearCoins 0 := ⟨tw_44, tw_45, tw_46, by decide +kernel, Nat.le_of_ble_eq_true rfl⟩
set_option maxRecDepth 100000 in
theorem cl_X8_50 {g : gT} {u : uT} {pc : Nat} {lv st : List Value} {h : mh_T} {Q : Option Value → mh_T → Prop} (hu : u.1 = RX8) (hK : 1 < u.2.2.2.2) (hd : decode u.2.1 pc = .ok (.invokevirtual 50, 3)) (hst : (st.map fun v => v.category).sum ≤ 8) (hM : MC g yX8_clearCoins uX8_clearCoins [.ref 3] h (fun v h' => ME g u (pc + 3) lv (v.toList ++ st) h' Q)) : ME g u pc lv (.ref 3 :: st) h Q := m_callV (As := []) (n := 0) (ci := 8) (k := 3) (q := (RX8, TX8, 8)) hd (by rw [hu]; exact lk_X8_50) tw_47 tw_48 rfl rfl (by decide) (by decide) rfl hK hst hM
set_option maxRecDepth 100000 in
theorem pf_X8_53 {g : gT} {u : uT} {pc : Nat} {lv st : List Value} {h : mh_T} {Q : Option Value → mh_T → Prop} {v : Int32} (hu : u.1 = RX8) (hd : decode u.2.1 pc = .ok (.putfield 53, 3)) (kk : ME g u (pc + 3) lv st (wI h 3 3 v) Q) : ME g u pc lv (.int v :: .ref 3 :: st) h Q := m_putI (ty := .int) (ci := 8) (k := 3) (j := 3) (q := (RX8, TX8, 8)) (ref := "NotAtOnce$Table") hd rfl (by decide) (by decide) rfl rfl tinX8 tgX8 (by rw [hu]; exact tw_36) rfl tyX8 tyX8_ok nmX8 rfl (by decide +kernel) rfl rfl rfl kk
set_option maxRecDepth 100000 in
theorem gf_X8_38 {g : gT} {u : uT} {pc : Nat} {lv st : List Value} {h : mh_T} {Q : Option Value → mh_T → Prop} (hu : u.1 = RX8) (hd : decode u.2.1 pc = .ok (.getfield 38, 3)) (kk : ME g u (pc + 3) lv (.int (mI h 3 2) :: st) h Q) : ME g u pc lv (.ref 3 :: st) h Q := m_getI (ci := 8) (k := 3) (j := 2) (q := (RX8, TX8, 8)) (ref := "NotAtOnce$Table") hd rfl (by decide) (by decide) rfl rfl tinX8 tgX8 (by rw [hu]; exact tw_39) rfl rfl kk
set_option maxRecDepth 100000 in
theorem gf_X8_21 {g : gT} {u : uT} {pc : Nat} {lv st : List Value} {h : mh_T} {Q : Option Value → mh_T → Prop} (hu : u.1 = RX8) (hd : decode u.2.1 pc = .ok (.getfield 21, 3)) (kk : ME g u (pc + 3) lv (.ref 27 :: st) h Q) : ME g u pc lv (.ref 3 :: st) h Q := m_getR (k' := 27) (ci := 8) (k := 3) (j := 7) (q := (RX8, TX8, 8)) (ref := "NotAtOnce$Table") hd rfl (by decide) (by decide) rfl rfl tinX8 tgX8 (by rw [hu]; exact tw_49) rfl rfl rfl (by decide) kk
set_option maxRecDepth 100000 in
theorem gf_X8_34 {g : gT} {u : uT} {pc : Nat} {lv st : List Value} {h : mh_T} {Q : Option Value → mh_T → Prop} (hu : u.1 = RX8) (hd : decode u.2.1 pc = .ok (.getfield 34, 3)) (kk : ME g u (pc + 3) lv (.int (mI h 3 1) :: st) h Q) : ME g u pc lv (.ref 3 :: st) h Q := m_getI (ci := 8) (k := 3) (j := 1) (q := (RX8, TX8, 8)) (ref := "NotAtOnce$Table") hd rfl (by decide) (by decide) rfl rfl tinX8 tgX8 (by rw [hu]; exact tw_38) rfl rfl kk
set_option maxRecDepth 100000 in
theorem lk_X8_56 : mLk RX8 56 yX8_hasSet uX8_hasSet 1 := ⟨tw_50, tw_51, tw_46, by decide +kernel, Nat.le_of_ble_eq_true rfl⟩
set_option maxRecDepth 100000 in
theorem cl_X8_56 {g : gT} {u : uT} {pc : Nat} {lv st : List Value} {h : mh_T} {Q : Option Value → mh_T → Prop} {a1 : Value} (hu : u.1 = RX8) (hK : 1 < u.2.2.2.2) (hd : decode u.2.1 pc = .ok (.invokevirtual 56, 3)) (hst : (st.map fun v => v.category).sum ≤ 8) (hM : MC g yX8_hasSet uX8_hasSet [.ref 3, a1] h (fun v h' => ME g u (pc + 3) lv (v.toList ++ st) h' Q)) : ME g u pc lv (a1 :: .ref 3 :: st) h Q := m_callV (As := [a1]) (n := 1) (ci := 8) (k := 3) (q := (RX8, TX8, 8)) hd (by rw [hu]; exact lk_X8_56) tw_52 tw_53 rfl rfl (by decide) (by decide) rfl hK hst hM
set_option maxRecDepth 100000 in
theorem lk_X8_60 : mLk RX8 60 yX8_outcomes uX8_outcomes 1 := ⟨tw_54, tw_55, tw_46, by decide +kernel, Nat.le_of_ble_eq_true rfl⟩
set_option maxRecDepth 100000 in
theorem cl_X8_60 {g : gT} {u : uT} {pc : Nat} {lv st : List Value} {h : mh_T} {Q : Option Value → mh_T → Prop} {a1 : Value} (hu : u.1 = RX8) (hK : 1 < u.2.2.2.2) (hd : decode u.2.1 pc = .ok (.invokevirtual 60, 3)) (hst : (st.map fun v => v.category).sum ≤ 8) (hM : MC g yX8_outcomes uX8_outcomes [.ref 3, a1] h (fun v h' => ME g u (pc + 3) lv (v.toList ++ st) h' Q)) : ME g u pc lv (a1 :: .ref 3 :: st) h Q := m_callV (As := [a1]) (n := 1) (ci := 8) (k := 3) (q := (RX8, TX8, 8)) hd (by rw [hu]; exact lk_X8_60) tw_56 tw_57 rfl rfl (by decide) (by decide) rfl hK hst hM
set_option maxRecDepth 100000 in
theorem lk_X8_64 : mLk RX8 64 yX8_cellOf uX8_cellOf 2 := ⟨tw_58, tw_59, tw_46, by decide +kernel, Nat.le_of_ble_eq_true rfl⟩
set_option maxRecDepth 100000 in
theorem cl_X8_64 {g : gT} {u : uT} {pc : Nat} {lv st : List Value} {h : mh_T} {Q : Option Value → mh_T → Prop} {a1 a2 : Value} (hu : u.1 = RX8) (hK : 1 < u.2.2.2.2) (hd : decode u.2.1 pc = .ok (.invokevirtual 64, 3)) (hst : (st.map fun v => v.category).sum ≤ 8) (hM : MC g yX8_cellOf uX8_cellOf [.ref 3, a1, a2] h (fun v h' => ME g u (pc + 3) lv (v.toList ++ st) h' Q)) : ME g u pc lv (a2 :: a1 :: .ref 3 :: st) h Q := m_callV (As := [a1, a2]) (n := 2) (ci := 8) (k := 3) (q := (RX8, TX8, 8)) hd (by rw [hu]; exact lk_X8_64) tw_60 tw_61 rfl rfl (by decide) (by decide) rfl hK hst hM
set_option maxRecDepth 100000 in
theorem lk_X8_68 : mLk RX8 68 yX8_hiddenAnswers uX8_hiddenAnswers 0 := ⟨tw_62, tw_63, tw_46, by decide +kernel, Nat.le_of_ble_eq_true rfl⟩
set_option maxRecDepth 100000 in
theorem cl_X8_68 {g : gT} {u : uT} {pc : Nat} {lv st : List Value} {h : mh_T} {Q : Option Value → mh_T → Prop} (hu : u.1 = RX8) (hK : 1 < u.2.2.2.2) (hd : decode u.2.1 pc = .ok (.invokevirtual 68, 3)) (hst : (st.map fun v => v.category).sum ≤ 8) (hM : MC g yX8_hiddenAnswers uX8_hiddenAnswers [.ref 3] h (fun v h' => ME g u (pc + 3) lv (v.toList ++ st) h' Q)) : ME g u pc lv (.ref 3 :: st) h Q := m_callV (As := []) (n := 0) (ci := 8) (k := 3) (q := (RX8, TX8, 8)) hd (by rw [hu]; exact lk_X8_68) tw_64 tw_65 rfl rfl (by decide) (by decide) rfl hK hst hM
set_option maxRecDepth 100000 in
theorem lk_X8_72 : mLk RX8 72 yX8_missed uX8_missed 1 := ⟨tw_66, tw_67, tw_46, by decide +kernel, Nat.le_of_ble_eq_true rfl⟩
set_option maxRecDepth 100000 in
theorem cl_X8_72 {g : gT} {u : uT} {pc : Nat} {lv st : List Value} {h : mh_T} {Q : Option Value → mh_T → Prop} {a1 : Value} (hu : u.1 = RX8) (hK : 2 < u.2.2.2.2) (hd : decode u.2.1 pc = .ok (.invokevirtual 72, 3)) (hst : (st.map fun v => v.category).sum ≤ 8) (hM : MC g yX8_missed uX8_missed [.ref 3, a1] h (fun v h' => ME g u (pc + 3) lv (v.toList ++ st) h' Q)) : ME g u pc lv (a1 :: .ref 3 :: st) h Q := m_callV (As := [a1]) (n := 1) (ci := 8) (k := 3) (q := (RX8, TX8, 8)) hd (by rw [hu]; exact lk_X8_72) tw_68 tw_69 rfl rfl (by decide) (by decide) rfl hK hst hM
set_option maxRecDepth 100000 in
theorem lk_X8_75 : mLk RX8 75 yX8_onesOf uX8_onesOf 2 := ⟨tw_70, tw_71, tw_46, by decide +kernel, Nat.le_of_ble_eq_true rfl⟩
set_option maxRecDepth 100000 in
theorem cl_X8_75 {g : gT} {u : uT} {pc : Nat} {lv st : List Value} {h : mh_T} {Q : Option Value → mh_T → Prop} {a1 a2 : Value} (hu : u.1 = RX8) (hK : 1 < u.2.2.2.2) (hd : decode u.2.1 pc = .ok (.invokevirtual 75, 3)) (hst : (st.map fun v => v.category).sum ≤ 8) (hM : MC g yX8_onesOf uX8_onesOf [.ref 3, a1, a2] h (fun v h' => ME g u (pc + 3) lv (v.toList ++ st) h' Q)) : ME g u pc lv (a2 :: a1 :: .ref 3 :: st) h Q := m_callV (As := [a1, a2]) (n := 2) (ci := 8) (k := 3) (q := (RX8, TX8, 8)) hd (by rw [hu]; exact lk_X8_75) tw_72 tw_73 rfl rfl (by decide) (by decide) rfl hK hst hM
set_option maxRecDepth 100000 in
theorem lk_X8_78 : mLk RX8 78 yX8_pay uX8_pay 1 := ⟨tw_74, tw_75, tw_46, by decide +kernel, Nat.le_of_ble_eq_true rfl⟩
set_option maxRecDepth 100000 in
theorem cl_X8_78 {g : gT} {u : uT} {pc : Nat} {lv st : List Value} {h : mh_T} {Q : Option Value → mh_T → Prop} {a1 : Value} (hu : u.1 = RX8) (hK : 2 < u.2.2.2.2) (hd : decode u.2.1 pc = .ok (.invokevirtual 78, 3)) (hst : (st.map fun v => v.category).sum ≤ 8) (hM : MC g yX8_pay uX8_pay [.ref 3, a1] h (fun v h' => ME g u (pc + 3) lv (v.toList ++ st) h' Q)) : ME g u pc lv (a1 :: .ref 3 :: st) h Q := m_callV (As := [a1]) (n := 1) (ci := 8) (k := 3) (q := (RX8, TX8, 8)) hd (by rw [hu]; exact lk_X8_78) tw_76 tw_77 rfl rfl (by decide) (by decide) rfl hK hst hM
set_option maxRecDepth 100000 in
theorem lk_X8_81 : mLk RX8 81 yX8_swap uX8_swap 2 := ⟨tw_78, tw_79, tw_46, by decide +kernel, Nat.le_of_ble_eq_true rfl⟩
set_option maxRecDepth 100000 in
theorem cl_X8_81 {g : gT} {u : uT} {pc : Nat} {lv st : List Value} {h : mh_T} {Q : Option Value → mh_T → Prop} {a1 a2 : Value} (hu : u.1 = RX8) (hK : 1 < u.2.2.2.2) (hd : decode u.2.1 pc = .ok (.invokevirtual 81, 3)) (hst : (st.map fun v => v.category).sum ≤ 8) (hM : MC g yX8_swap uX8_swap [.ref 3, a1, a2] h (fun v h' => ME g u (pc + 3) lv (v.toList ++ st) h' Q)) : ME g u pc lv (a2 :: a1 :: .ref 3 :: st) h Q := m_callV (As := [a1, a2]) (n := 2) (ci := 8) (k := 3) (q := (RX8, TX8, 8)) hd (by rw [hu]; exact lk_X8_81) tw_80 tw_81 rfl rfl (by decide) (by decide) rfl hK hst hM
set_option maxRecDepth 100000 in
theorem lk_X8_89 : mLk RX8 89 yX8_putTogether uX8_putTogether 3 := ⟨tw_82, tw_83, tw_46, by decide +kernel, Nat.le_of_ble_eq_true rfl⟩
set_option maxRecDepth 100000 in
theorem cl_X8_89 {g : gT} {u : uT} {pc : Nat} {lv st : List Value} {h : mh_T} {Q : Option Value → mh_T → Prop} {a1 a2 a3 : Value} (hu : u.1 = RX8) (hK : 1 < u.2.2.2.2) (hd : decode u.2.1 pc = .ok (.invokevirtual 89, 3)) (hst : (st.map fun v => v.category).sum ≤ 8) (hM : MC g yX8_putTogether uX8_putTogether [.ref 3, a1, a2, a3] h (fun v h' => ME g u (pc + 3) lv (v.toList ++ st) h' Q)) : ME g u pc lv (a3 :: a2 :: a1 :: .ref 3 :: st) h Q := m_callV (As := [a1, a2, a3]) (n := 3) (ci := 8) (k := 3) (q := (RX8, TX8, 8)) hd (by rw [hu]; exact lk_X8_89) tw_84 tw_85 rfl rfl (by decide) (by decide) rfl hK hst hM
set_option maxRecDepth 100000 in
theorem lk_X8_85 : mLk RX8 85 yX8_remove uX8_remove 1 := ⟨tw_86, tw_87, tw_46, by decide +kernel, Nat.le_of_ble_eq_true rfl⟩
set_option maxRecDepth 100000 in
theorem cl_X8_85 {g : gT} {u : uT} {pc : Nat} {lv st : List Value} {h : mh_T} {Q : Option Value → mh_T → Prop} {a1 : Value} (hu : u.1 = RX8) (hK : 1 < u.2.2.2.2) (hd : decode u.2.1 pc = .ok (.invokevirtual 85, 3)) (hst : (st.map fun v => v.category).sum ≤ 8) (hM : MC g yX8_remove uX8_remove [.ref 3, a1] h (fun v h' => ME g u (pc + 3) lv (v.toList ++ st) h' Q)) : ME g u pc lv (a1 :: .ref 3 :: st) h Q := m_callV (As := [a1]) (n := 1) (ci := 8) (k := 3) (q := (RX8, TX8, 8)) hd (by rw [hu]; exact lk_X8_85) tw_88 tw_89 rfl rfl (by decide) (by decide) rfl hK hst hM
set_option maxRecDepth 100000 in
theorem lk_X2_13 : mLk RX2 13 yX2_commonPart uX2_commonPart 2 := ⟨tw_90, tw_91, tw_92, by decide +kernel, Nat.le_of_ble_eq_true rfl⟩
set_option maxRecDepth 100000 in
theorem cl_X2_13 {g : gT} {u : uT} {pc : Nat} {lv st : List Value} {h : mh_T} {Q : Option Value → mh_T → Prop} {a1 a2 : Value} (hu : u.1 = RX2) (hK : 1 < u.2.2.2.2) (hd : decode u.2.1 pc = .ok (.invokestatic 13, 3)) (hst : (st.map fun v => v.category).sum ≤ 8) (hM : MC g yX2_commonPart uX2_commonPart [a1, a2] h (fun v h' => ME g u (pc + 3) lv (v.toList ++ st) h' Q)) : ME g u pc lv (a2 :: a1 :: st) h Q := m_callS (As := [a1, a2]) (n := 2) hd (by rw [hu]; exact lk_X2_13) tw_93 rfl hK hst hM
set_option maxRecDepth 100000 in
theorem pf_X2_17 {g : gT} {u : uT} {pc : Nat} {lv st : List Value} {h : mh_T} {Q : Option Value → mh_T → Prop} {v : Int64} (hu : u.1 = RX2) (hd : decode u.2.1 pc = .ok (.putfield 17, 3)) (kk : ME g u (pc + 3) lv st (wL h 5 0 v) Q) : ME g u pc lv (.long v :: .ref 5 :: st) h Q := m_putL (ty := .long) (ci := 2) (k := 5) (j := 0) (q := (RX2, TX2, 2)) (ref := "NotAtOnce$Fraction") hd rfl (by decide) (by decide) rfl rfl tinX2 tgX2 (by rw [hu]; exact tw_94) rfl tyX2 tyX2_ok nmX2 rfl (by decide +kernel) rfl rfl rfl kk
set_option maxRecDepth 100000 in
theorem pf_X2_7 {g : gT} {u : uT} {pc : Nat} {lv st : List Value} {h : mh_T} {Q : Option Value → mh_T → Prop} {v : Int64} (hu : u.1 = RX2) (hd : decode u.2.1 pc = .ok (.putfield 7, 3)) (kk : ME g u (pc + 3) lv st (wL h 5 1 v) Q) : ME g u pc lv (.long v :: .ref 5 :: st) h Q := m_putL (ty := .long) (ci := 2) (k := 5) (j := 1) (q := (RX2, TX2, 2)) (ref := "NotAtOnce$Fraction") hd rfl (by decide) (by decide) rfl rfl tinX2 tgX2 (by rw [hu]; exact tw_95) rfl tyX2 tyX2_ok nmX2 rfl (by decide +kernel) rfl rfl rfl kk
set_option maxRecDepth 100000 in
theorem gf_X2_7 {g : gT} {u : uT} {pc : Nat} {lv st : List Value} {h : mh_T} {Q : Option Value → mh_T → Prop} (hu : u.1 = RX2) (hd : decode u.2.1 pc = .ok (.getfield 7, 3)) (kk : ME g u (pc + 3) lv (.long (mL h 5 1) :: st) h Q) : ME g u pc lv (.ref 5 :: st) h Q := m_getL (ci := 2) (k := 5) (j := 1) (q := (RX2, TX2, 2)) (ref := "NotAtOnce$Fraction") hd rfl (by decide) (by decide) rfl rfl tinX2 tgX2 (by rw [hu]; exact tw_95) rfl rfl kk
set_option maxRecDepth 100000 in
theorem gf_X2_17 {g : gT} {u : uT} {pc : Nat} {lv st : List Value} {h : mh_T} {Q : Option Value → mh_T → Prop} (hu : u.1 = RX2) (hd : decode u.2.1 pc = .ok (.getfield 17, 3)) (kk : ME g u (pc + 3) lv (.long (mL h 5 0) :: st) h Q) : ME g u pc lv (.ref 5 :: st) h Q := m_getL (ci := 2) (k := 5) (j := 0) (q := (RX2, TX2, 2)) (ref := "NotAtOnce$Fraction") hd rfl (by decide) (by decide) rfl rfl tinX2 tgX2 (by rw [hu]; exact tw_94) rfl rfl kk
set_option maxRecDepth 100000 in
theorem gf_X7_9 {g : gT} {u : uT} {pc : Nat} {lv st : List Value} {h : mh_T} {Q : Option Value → mh_T → Prop} (hu : u.1 = RX7) (hd : decode u.2.1 pc = .ok (.getfield 9, 3)) (kk : ME g u (pc + 3) lv (.ref 3 :: st) h Q) : ME g u pc lv (.ref 4 :: st) h Q := m_getR (k' := 3) (ci := 7) (k := 4) (j := 0) (q := (RX7, TX7, 1)) (ref := "NotAtOnce$Rings") hd rfl (by decide) (by decide) rfl rfl tinX7 tgX7 (by rw [hu]; exact tw_96) rfl rfl rfl (by decide) kk
set_option maxRecDepth 100000 in
theorem gf_X7_15 {g : gT} {u : uT} {pc : Nat} {lv st : List Value} {h : mh_T} {Q : Option Value → mh_T → Prop} (hu : u.1 = RX7) (hd : decode u.2.1 pc = .ok (.getfield 15, 3)) (kk : ME g u (pc + 3) lv (.int (mI h 3 2) :: st) h Q) : ME g u pc lv (.ref 3 :: st) h Q := m_getI (ci := 8) (k := 3) (j := 2) (q := (RX8, TX8, 8)) (ref := "NotAtOnce$Table") hd rfl (by decide) (by decide) rfl rfl tinX8 tgX8 (by rw [hu]; exact tw_97) rfl rfl kk
set_option maxRecDepth 100000 in
theorem lk_X7_21 : mLk RX7 21 yJ6_bitCount_0f7a4 uJ6_bitCount_0f7a4 1 := ⟨tw_98, tw_99, tw_100, by decide +kernel, Nat.le_of_ble_eq_true rfl⟩
set_option maxRecDepth 100000 in
theorem cl_X7_21 {g : gT} {u : uT} {pc : Nat} {lv st : List Value} {h : mh_T} {Q : Option Value → mh_T → Prop} {a1 : Value} (hu : u.1 = RX7) (hK : 1 < u.2.2.2.2) (hd : decode u.2.1 pc = .ok (.invokestatic 21, 3)) (hst : (st.map fun v => v.category).sum ≤ 8) (hM : MC g yJ6_bitCount_0f7a4 uJ6_bitCount_0f7a4 [a1] h (fun v h' => ME g u (pc + 3) lv (v.toList ++ st) h' Q)) : ME g u pc lv (a1 :: st) h Q := m_callS (As := [a1]) (n := 1) hd (by rw [hu]; exact lk_X7_21) tw_101 rfl hK hst hM
set_option maxRecDepth 100000 in
theorem lk_X7_34 : mLk RX7 34 yX7_hangsTogether uX7_hangsTogether 2 := ⟨tw_102, tw_103, tw_104, by decide +kernel, Nat.le_of_ble_eq_true rfl⟩
set_option maxRecDepth 100000 in
theorem cl_X7_34 {g : gT} {u : uT} {pc : Nat} {lv st : List Value} {h : mh_T} {Q : Option Value → mh_T → Prop} {a1 a2 : Value} (hu : u.1 = RX7) (hK : 2 < u.2.2.2.2) (hd : decode u.2.1 pc = .ok (.invokevirtual 34, 3)) (hst : (st.map fun v => v.category).sum ≤ 8) (hM : MC g yX7_hangsTogether uX7_hangsTogether [.ref 4, a1, a2] h (fun v h' => ME g u (pc + 3) lv (v.toList ++ st) h' Q)) : ME g u pc lv (a2 :: a1 :: .ref 4 :: st) h Q := m_callV (As := [a1, a2]) (n := 2) (ci := 7) (k := 4) (q := (RX7, TX7, 1)) hd (by rw [hu]; exact lk_X7_34) tw_105 tw_106 rfl rfl (by decide) (by decide) rfl hK hst hM
set_option maxRecDepth 100000 in
theorem lk_X7_27 : mLk RX7 27 yX8_hasPair uX8_hasPair 1 := ⟨tw_107, tw_108, tw_46, by decide +kernel, Nat.le_of_ble_eq_true rfl⟩
set_option maxRecDepth 100000 in
theorem cl_X7_27 {g : gT} {u : uT} {pc : Nat} {lv st : List Value} {h : mh_T} {Q : Option Value → mh_T → Prop} {a1 : Value} (hu : u.1 = RX7) (hK : 2 < u.2.2.2.2) (hd : decode u.2.1 pc = .ok (.invokevirtual 27, 3)) (hst : (st.map fun v => v.category).sum ≤ 8) (hM : MC g yX8_hasPair uX8_hasPair [.ref 3, a1] h (fun v h' => ME g u (pc + 3) lv (v.toList ++ st) h' Q)) : ME g u pc lv (a1 :: .ref 3 :: st) h Q := m_callV (As := [a1]) (n := 1) (ci := 8) (k := 3) (q := (RX8, TX8, 8)) hd (by rw [hu]; exact lk_X7_27) tw_109 tw_110 rfl rfl (by decide) (by decide) rfl hK hst hM
set_option maxRecDepth 100000 in
theorem lk_X7_31 : mLk RX7 31 yX7_looksOf uX7_looksOf 1 := ⟨tw_111, tw_112, tw_104, by decide +kernel, Nat.le_of_ble_eq_true rfl⟩
set_option maxRecDepth 100000 in
theorem cl_X7_31 {g : gT} {u : uT} {pc : Nat} {lv st : List Value} {h : mh_T} {Q : Option Value → mh_T → Prop} {a1 : Value} (hu : u.1 = RX7) (hK : 1 < u.2.2.2.2) (hd : decode u.2.1 pc = .ok (.invokevirtual 31, 3)) (hst : (st.map fun v => v.category).sum ≤ 8) (hM : MC g yX7_looksOf uX7_looksOf [.ref 4, a1] h (fun v h' => ME g u (pc + 3) lv (v.toList ++ st) h' Q)) : ME g u pc lv (a1 :: .ref 4 :: st) h Q := m_callV (As := [a1]) (n := 1) (ci := 7) (k := 4) (q := (RX7, TX7, 1)) hd (by rw [hu]; exact lk_X7_31) tw_113 tw_114 rfl rfl (by decide) (by decide) rfl hK hst hM
set_option maxRecDepth 100000 in
theorem gf_X7_38 {g : gT} {u : uT} {pc : Nat} {lv st : List Value} {h : mh_T} {Q : Option Value → mh_T → Prop} (hu : u.1 = RX7) (hd : decode u.2.1 pc = .ok (.getfield 38, 3)) (kk : ME g u (pc + 3) lv (.ref 24 :: st) h Q) : ME g u pc lv (.ref 3 :: st) h Q := m_getR (k' := 24) (ci := 8) (k := 3) (j := 4) (q := (RX8, TX8, 8)) (ref := "NotAtOnce$Table") hd rfl (by decide) (by decide) rfl rfl tinX8 tgX8 (by rw [hu]; exact tw_115) rfl rfl rfl (by decide) kk
set_option maxRecDepth 100000 in
theorem gf_X7_42 {g : gT} {u : uT} {pc : Nat} {lv st : List Value} {h : mh_T} {Q : Option Value → mh_T → Prop} (hu : u.1 = RX7) (hd : decode u.2.1 pc = .ok (.getfield 42, 3)) (kk : ME g u (pc + 3) lv (.ref 25 :: st) h Q) : ME g u pc lv (.ref 3 :: st) h Q := m_getR (k' := 25) (ci := 8) (k := 3) (j := 5) (q := (RX8, TX8, 8)) (ref := "NotAtOnce$Table") hd rfl (by decide) (by decide) rfl rfl tinX8 tgX8 (by rw [hu]; exact tw_116) rfl rfl rfl (by decide) kk
set_option maxRecDepth 100000 in
theorem lk_X7_45 : mLk RX7 45 yX7_isRing uX7_isRing 1 := ⟨tw_117, tw_118, tw_104, by decide +kernel, Nat.le_of_ble_eq_true rfl⟩
set_option maxRecDepth 100000 in
theorem cl_X7_45 {g : gT} {u : uT} {pc : Nat} {lv st : List Value} {h : mh_T} {Q : Option Value → mh_T → Prop} {a1 : Value} (hu : u.1 = RX7) (hK : 3 < u.2.2.2.2) (hd : decode u.2.1 pc = .ok (.invokevirtual 45, 3)) (hst : (st.map fun v => v.category).sum ≤ 8) (hM : MC g yX7_isRing uX7_isRing [.ref 4, a1] h (fun v h' => ME g u (pc + 3) lv (v.toList ++ st) h' Q)) : ME g u pc lv (a1 :: .ref 4 :: st) h Q := m_callV (As := [a1]) (n := 1) (ci := 7) (k := 4) (q := (RX7, TX7, 1)) hd (by rw [hu]; exact lk_X7_45) tw_119 tw_120 rfl rfl (by decide) (by decide) rfl hK hst hM
set_option maxRecDepth 100000 in
theorem gf_X7_60 {g : gT} {u : uT} {pc : Nat} {lv st : List Value} {h : mh_T} {Q : Option Value → mh_T → Prop} (hu : u.1 = RX7) (hd : decode u.2.1 pc = .ok (.getfield 60, 3)) (kk : ME g u (pc + 3) lv (.int (mI h 3 0) :: st) h Q) : ME g u pc lv (.ref 3 :: st) h Q := m_getI (ci := 8) (k := 3) (j := 0) (q := (RX8, TX8, 8)) (ref := "NotAtOnce$Table") hd rfl (by decide) (by decide) rfl rfl tinX8 tgX8 (by rw [hu]; exact tw_121) rfl rfl kk
set_option maxRecDepth 100000 in
theorem lk_X7_48 : mLk RX7 48 yX8_alike uX8_alike 1 := ⟨tw_122, tw_123, tw_46, by decide +kernel, Nat.le_of_ble_eq_true rfl⟩
set_option maxRecDepth 100000 in
theorem cl_X7_48 {g : gT} {u : uT} {pc : Nat} {lv st : List Value} {h : mh_T} {Q : Option Value → mh_T → Prop} {a1 : Value} (hu : u.1 = RX7) (hK : 1 < u.2.2.2.2) (hd : decode u.2.1 pc = .ok (.invokevirtual 48, 3)) (hst : (st.map fun v => v.category).sum ≤ 8) (hM : MC g yX8_alike uX8_alike [.ref 3, a1] h (fun v h' => ME g u (pc + 3) lv (v.toList ++ st) h' Q)) : ME g u pc lv (a1 :: .ref 3 :: st) h Q := m_callV (As := [a1]) (n := 1) (ci := 8) (k := 3) (q := (RX8, TX8, 8)) hd (by rw [hu]; exact lk_X7_48) tw_124 tw_125 rfl rfl (by decide) (by decide) rfl hK hst hM
set_option maxRecDepth 100000 in
theorem lk_X7_63 : mLk RX7 63 yX7_surplus uX7_surplus 1 := ⟨tw_133, tw_134, tw_104, by decide +kernel, Nat.le_of_ble_eq_true rfl⟩
set_option maxRecDepth 100000 in
theorem cl_X7_63 {g : gT} {u : uT} {pc : Nat} {lv st : List Value} {h : mh_T} {Q : Option Value → mh_T → Prop} {a1 : Value} (hu : u.1 = RX7) (hK : 2 < u.2.2.2.2) (hd : decode u.2.1 pc = .ok (.invokevirtual 63, 3)) (hst : (st.map fun v => v.category).sum ≤ 8) (hM : MC g yX7_surplus uX7_surplus [.ref 4, a1] h (fun v h' => ME g u (pc + 3) lv (v.toList ++ st) h' Q)) : ME g u pc lv (a1 :: .ref 4 :: st) h Q := m_callV (As := [a1]) (n := 1) (ci := 7) (k := 4) (q := (RX7, TX7, 1)) hd (by rw [hu]; exact lk_X7_63) tw_135 tw_136 rfl rfl (by decide) (by decide) rfl hK hst hM
set_option maxRecDepth 100000 in
theorem gf_X5_19 {g : gT} {u : uT} {pc : Nat} {lv st : List Value} {h : mh_T} {Q : Option Value → mh_T → Prop} (hu : u.1 = RX5) (hd : decode u.2.1 pc = .ok (.getfield 19, 3)) (kk : ME g u (pc + 3) lv (.int (mI h 2 2) :: st) h Q) : ME g u pc lv (.ref 2 :: st) h Q := m_getI (ci := 1) (k := 2) (j := 2) (q := (RX1, TX1, 16)) (ref := "NotAtOnce$Draft") hd rfl (by decide) (by decide) rfl rfl tinX1 tgX1 (by rw [hu]; exact tw_137) rfl rfl kk
set_option maxRecDepth 100000 in
theorem gf_X5_25 {g : gT} {u : uT} {pc : Nat} {lv st : List Value} {h : mh_T} {Q : Option Value → mh_T → Prop} (hu : u.1 = RX5) (hd : decode u.2.1 pc = .ok (.getfield 25, 3)) (kk : ME g u (pc + 3) lv (.int (mI h 2 4) :: st) h Q) : ME g u pc lv (.ref 2 :: st) h Q := m_getI (ci := 1) (k := 2) (j := 4) (q := (RX1, TX1, 16)) (ref := "NotAtOnce$Draft") hd rfl (by decide) (by decide) rfl rfl tinX1 tgX1 (by rw [hu]; exact tw_138) rfl rfl kk
set_option maxRecDepth 100000 in
theorem gf_X5_28 {g : gT} {u : uT} {pc : Nat} {lv st : List Value} {h : mh_T} {Q : Option Value → mh_T → Prop} (hu : u.1 = RX5) (hd : decode u.2.1 pc = .ok (.getfield 28, 3)) (kk : ME g u (pc + 3) lv (.int (mI h 7 1) :: st) h Q) : ME g u pc lv (.ref 7 :: st) h Q := m_getI (ci := 5) (k := 7) (j := 1) (q := (RX5, TX5, 6)) (ref := "NotAtOnce$Parities") hd rfl (by decide) (by decide) rfl rfl tinX5 tgX5 (by rw [hu]; exact tw_139) rfl rfl kk
set_option maxRecDepth 100000 in
theorem gf_X5_15 {g : gT} {u : uT} {pc : Nat} {lv st : List Value} {h : mh_T} {Q : Option Value → mh_T → Prop} (hu : u.1 = RX5) (hd : decode u.2.1 pc = .ok (.getfield 15, 3)) (kk : ME g u (pc + 3) lv (.ref 31 :: st) h Q) : ME g u pc lv (.ref 7 :: st) h Q := m_getR (k' := 31) (ci := 5) (k := 7) (j := 5) (q := (RX5, TX5, 6)) (ref := "NotAtOnce$Parities") hd rfl (by decide) (by decide) rfl rfl tinX5 tgX5 (by rw [hu]; exact tw_140) rfl rfl rfl (by decide) kk
set_option maxRecDepth 100000 in
theorem gf_X5_24 {g : gT} {u : uT} {pc : Nat} {lv st : List Value} {h : mh_T} {Q : Option Value → mh_T → Prop} (hu : u.1 = RX5) (hd : decode u.2.1 pc = .ok (.getfield 24, 3)) (kk : ME g u (pc + 3) lv (.int (mI h 7 0) :: st) h Q) : ME g u pc lv (.ref 7 :: st) h Q := m_getI (ci := 5) (k := 7) (j := 0) (q := (RX5, TX5, 6)) (ref := "NotAtOnce$Parities") hd rfl (by decide) (by decide) rfl rfl tinX5 tgX5 (by rw [hu]; exact tw_141) rfl rfl kk
set_option maxRecDepth 100000 in
theorem gf_X5_9 {g : gT} {u : uT} {pc : Nat} {lv st : List Value} {h : mh_T} {Q : Option Value → mh_T → Prop} (hu : u.1 = RX5) (hd : decode u.2.1 pc = .ok (.getfield 9, 3)) (kk : ME g u (pc + 3) lv (.int (mI h 7 2) :: st) h Q) : ME g u pc lv (.ref 7 :: st) h Q := m_getI (ci := 5) (k := 7) (j := 2) (q := (RX5, TX5, 6)) (ref := "NotAtOnce$Parities") hd rfl (by decide) (by decide) rfl rfl tinX5 tgX5 (by rw [hu]; exact tw_142) rfl rfl kk
set_option maxRecDepth 100000 in
theorem gf_X5_29 {g : gT} {u : uT} {pc : Nat} {lv st : List Value} {h : mh_T} {Q : Option Value → mh_T → Prop} (hu : u.1 = RX5) (hd : decode u.2.1 pc = .ok (.getfield 29, 3)) (kk : ME g u (pc + 3) lv (.int (mI h 7 3) :: st) h Q) : ME g u pc lv (.ref 7 :: st) h Q := m_getI (ci := 5) (k := 7) (j := 3) (q := (RX5, TX5, 6)) (ref := "NotAtOnce$Parities") hd rfl (by decide) (by decide) rfl rfl tinX5 tgX5 (by rw [hu]; exact tw_143) rfl rfl kk
set_option maxRecDepth 100000 in
theorem gf_X5_32 {g : gT} {u : uT} {pc : Nat} {lv st : List Value} {h : mh_T} {Q : Option Value → mh_T → Prop} (hu : u.1 = RX5) (hd : decode u.2.1 pc = .ok (.getfield 32, 3)) (kk : ME g u (pc + 3) lv (.int (mI h 7 4) :: st) h Q) : ME g u pc lv (.ref 7 :: st) h Q := m_getI (ci := 5) (k := 7) (j := 4) (q := (RX5, TX5, 6)) (ref := "NotAtOnce$Parities") hd rfl (by decide) (by decide) rfl rfl tinX5 tgX5 (by rw [hu]; exact tw_144) rfl rfl kk
set_option maxRecDepth 100000 in
theorem pf_X5_24 {g : gT} {u : uT} {pc : Nat} {lv st : List Value} {h : mh_T} {Q : Option Value → mh_T → Prop} {v : Int32} (hu : u.1 = RX5) (hd : decode u.2.1 pc = .ok (.putfield 24, 3)) (kk : ME g u (pc + 3) lv st (wI h 7 0 v) Q) : ME g u pc lv (.int v :: .ref 7 :: st) h Q := m_putI (ty := .int) (ci := 5) (k := 7) (j := 0) (q := (RX5, TX5, 6)) (ref := "NotAtOnce$Parities") hd rfl (by decide) (by decide) rfl rfl tinX5 tgX5 (by rw [hu]; exact tw_141) rfl tyX5 tyX5_ok nmX5 rfl (by decide +kernel) rfl rfl rfl kk
set_option maxRecDepth 100000 in
theorem pf_X5_28 {g : gT} {u : uT} {pc : Nat} {lv st : List Value} {h : mh_T} {Q : Option Value → mh_T → Prop} {v : Int32} (hu : u.1 = RX5) (hd : decode u.2.1 pc = .ok (.putfield 28, 3)) (kk : ME g u (pc + 3) lv st (wI h 7 1 v) Q) : ME g u pc lv (.int v :: .ref 7 :: st) h Q := m_putI (ty := .int) (ci := 5) (k := 7) (j := 1) (q := (RX5, TX5, 6)) (ref := "NotAtOnce$Parities") hd rfl (by decide) (by decide) rfl rfl tinX5 tgX5 (by rw [hu]; exact tw_139) rfl tyX5 tyX5_ok nmX5 rfl (by decide +kernel) rfl rfl rfl kk
set_option maxRecDepth 100000 in
theorem pf_X5_9 {g : gT} {u : uT} {pc : Nat} {lv st : List Value} {h : mh_T} {Q : Option Value → mh_T → Prop} {v : Int32} (hu : u.1 = RX5) (hd : decode u.2.1 pc = .ok (.putfield 9, 3)) (kk : ME g u (pc + 3) lv st (wI h 7 2 v) Q) : ME g u pc lv (.int v :: .ref 7 :: st) h Q := m_putI (ty := .int) (ci := 5) (k := 7) (j := 2) (q := (RX5, TX5, 6)) (ref := "NotAtOnce$Parities") hd rfl (by decide) (by decide) rfl rfl tinX5 tgX5 (by rw [hu]; exact tw_142) rfl tyX5 tyX5_ok nmX5 rfl (by decide +kernel) rfl rfl rfl kk
set_option maxRecDepth 100000 in
theorem pf_X5_29 {g : gT} {u : uT} {pc : Nat} {lv st : List Value} {h : mh_T} {Q : Option Value → mh_T → Prop} {v : Int32} (hu : u.1 = RX5) (hd : decode u.2.1 pc = .ok (.putfield 29, 3)) (kk : ME g u (pc + 3) lv st (wI h 7 3 v) Q) : ME g u pc lv (.int v :: .ref 7 :: st) h Q := m_putI (ty := .int) (ci := 5) (k := 7) (j := 3) (q := (RX5, TX5, 6)) (ref := "NotAtOnce$Parities") hd rfl (by decide) (by decide) rfl rfl tinX5 tgX5 (by rw [hu]; exact tw_143) rfl tyX5 tyX5_ok nmX5 rfl (by decide +kernel) rfl rfl rfl kk
set_option maxRecDepth 100000 in
theorem pf_X5_32 {g : gT} {u : uT} {pc : Nat} {lv st : List Value} {h : mh_T} {Q : Option Value → mh_T → Prop} {v : Int32} (hu : u.1 = RX5) (hd : decode u.2.1 pc = .ok (.putfield 32, 3)) (kk : ME g u (pc + 3) lv st (wI h 7 4 v) Q) : ME g u pc lv (.int v :: .ref 7 :: st) h Q := m_putI (ty := .int) (ci := 5) (k := 7) (j := 4) (q := (RX5, TX5, 6)) (ref := "NotAtOnce$Parities") hd rfl (by decide) (by decide) rfl rfl tinX5 tgX5 (by rw [hu]; exact tw_144) rfl tyX5 tyX5_ok nmX5 rfl (by decide +kernel) rfl rfl rfl kk
set_option maxRecDepth 100000 in
theorem lk_X5_39 : mLk RX5 39 yX5_spread uX5_spread 0 := ⟨tw_145, tw_146, tw_147, by decide +kernel, Nat.le_of_ble_eq_true rfl⟩
set_option maxRecDepth 100000 in
theorem cl_X5_39 {g : gT} {u : uT} {pc : Nat} {lv st : List Value} {h : mh_T} {Q : Option Value → mh_T → Prop} (hu : u.1 = RX5) (hK : 1 < u.2.2.2.2) (hd : decode u.2.1 pc = .ok (.invokevirtual 39, 3)) (hst : (st.map fun v => v.category).sum ≤ 8) (hM : MC g yX5_spread uX5_spread [.ref 7] h (fun v h' => ME g u (pc + 3) lv (v.toList ++ st) h' Q)) : ME g u pc lv (.ref 7 :: st) h Q := m_callV (As := []) (n := 0) (ci := 5) (k := 7) (q := (RX5, TX5, 6)) hd (by rw [hu]; exact lk_X5_39) tw_148 tw_149 rfl rfl (by decide) (by decide) rfl hK hst hM
set_option maxRecDepth 100000 in
theorem lk_X5_35 : mLk RX5 35 yX5_soLines uX5_soLines 2 := ⟨tw_150, tw_151, tw_147, by decide +kernel, Nat.le_of_ble_eq_true rfl⟩
set_option maxRecDepth 100000 in
theorem cl_X5_35 {g : gT} {u : uT} {pc : Nat} {lv st : List Value} {h : mh_T} {Q : Option Value → mh_T → Prop} {a1 a2 : Value} (hu : u.1 = RX5) (hK : 2 < u.2.2.2.2) (hd : decode u.2.1 pc = .ok (.invokevirtual 35, 3)) (hst : (st.map fun v => v.category).sum ≤ 8) (hM : MC g yX5_soLines uX5_soLines [.ref 7, a1, a2] h (fun v h' => ME g u (pc + 3) lv (v.toList ++ st) h' Q)) : ME g u pc lv (a2 :: a1 :: .ref 7 :: st) h Q := m_callV (As := [a1, a2]) (n := 2) (ci := 5) (k := 7) (q := (RX5, TX5, 6)) hd (by rw [hu]; exact lk_X5_35) tw_152 tw_153 rfl rfl (by decide) (by decide) rfl hK hst hM
set_option maxRecDepth 100000 in
theorem gf_X5_42 {g : gT} {u : uT} {pc : Nat} {lv st : List Value} {h : mh_T} {Q : Option Value → mh_T → Prop} (hu : u.1 = RX5) (hd : decode u.2.1 pc = .ok (.getfield 42, 3)) (kk : ME g u (pc + 3) lv (.ref 18 :: st) h Q) : ME g u pc lv (.ref 2 :: st) h Q := m_getR (k' := 18) (ci := 1) (k := 2) (j := 10) (q := (RX1, TX1, 16)) (ref := "NotAtOnce$Draft") hd rfl (by decide) (by decide) rfl rfl tinX1 tgX1 (by rw [hu]; exact tw_154) rfl rfl rfl (by decide) kk
set_option maxRecDepth 100000 in
theorem gf_X5_52 {g : gT} {u : uT} {pc : Nat} {lv st : List Value} {h : mh_T} {Q : Option Value → mh_T → Prop} (hu : u.1 = RX5) (hd : decode u.2.1 pc = .ok (.getfield 52, 3)) (kk : ME g u (pc + 3) lv (.ref 19 :: st) h Q) : ME g u pc lv (.ref 2 :: st) h Q := m_getR (k' := 19) (ci := 1) (k := 2) (j := 11) (q := (RX1, TX1, 16)) (ref := "NotAtOnce$Draft") hd rfl (by decide) (by decide) rfl rfl tinX1 tgX1 (by rw [hu]; exact tw_155) rfl rfl rfl (by decide) kk
set_option maxRecDepth 100000 in
theorem lk_X5_46 : mLk RX5 46 yJ6_bitCount_0f7a4 uJ6_bitCount_0f7a4 1 := ⟨tw_98, tw_156, tw_100, by decide +kernel, Nat.le_of_ble_eq_true rfl⟩
set_option maxRecDepth 100000 in
theorem cl_X5_46 {g : gT} {u : uT} {pc : Nat} {lv st : List Value} {h : mh_T} {Q : Option Value → mh_T → Prop} {a1 : Value} (hu : u.1 = RX5) (hK : 1 < u.2.2.2.2) (hd : decode u.2.1 pc = .ok (.invokestatic 46, 3)) (hst : (st.map fun v => v.category).sum ≤ 8) (hM : MC g yJ6_bitCount_0f7a4 uJ6_bitCount_0f7a4 [a1] h (fun v h' => ME g u (pc + 3) lv (v.toList ++ st) h' Q)) : ME g u pc lv (a1 :: st) h Q := m_callS (As := [a1]) (n := 1) hd (by rw [hu]; exact lk_X5_46) tw_101 rfl hK hst hM
set_option maxRecDepth 100000 in
theorem gf_X3_18 {g : gT} {u : uT} {pc : Nat} {lv st : List Value} {h : mh_T} {Q : Option Value → mh_T → Prop} (hu : u.1 = RX3) (hd : decode u.2.1 pc = .ok (.getfield 18, 3)) (kk : ME g u (pc + 3) lv (.int (mI h 2 5) :: st) h Q) : ME g u pc lv (.ref 2 :: st) h Q := m_getI (ci := 1) (k := 2) (j := 5) (q := (RX1, TX1, 16)) (ref := "NotAtOnce$Draft") hd rfl (by decide) (by decide) rfl rfl tinX1 tgX1 (by rw [hu]; exact tw_160) rfl rfl kk
set_option maxRecDepth 100000 in
theorem gf_X3_24 {g : gT} {u : uT} {pc : Nat} {lv st : List Value} {h : mh_T} {Q : Option Value → mh_T → Prop} (hu : u.1 = RX3) (hd : decode u.2.1 pc = .ok (.getfield 24, 3)) (kk : ME g u (pc + 3) lv (.int (mI h 8 0) :: st) h Q) : ME g u pc lv (.ref 8 :: st) h Q := m_getI (ci := 3) (k := 8) (j := 0) (q := (RX3, TX3, 12)) (ref := "NotAtOnce$Frames") hd rfl (by decide) (by decide) rfl rfl tinX3 tgX3 (by rw [hu]; exact tw_161) rfl rfl kk
set_option maxRecDepth 100000 in
theorem gf_X3_9 {g : gT} {u : uT} {pc : Nat} {lv st : List Value} {h : mh_T} {Q : Option Value → mh_T → Prop} (hu : u.1 = RX3) (hd : decode u.2.1 pc = .ok (.getfield 9, 3)) (kk : ME g u (pc + 3) lv (.ref 32 :: st) h Q) : ME g u pc lv (.ref 8 :: st) h Q := m_getR (k' := 32) (ci := 3) (k := 8) (j := 6) (q := (RX3, TX3, 12)) (ref := "NotAtOnce$Frames") hd rfl (by decide) (by decide) rfl rfl tinX3 tgX3 (by rw [hu]; exact tw_162) rfl rfl rfl (by decide) kk
set_option maxRecDepth 100000 in
theorem gf_X3_29 {g : gT} {u : uT} {pc : Nat} {lv st : List Value} {h : mh_T} {Q : Option Value → mh_T → Prop} (hu : u.1 = RX3) (hd : decode u.2.1 pc = .ok (.getfield 29, 3)) (kk : ME g u (pc + 3) lv (.ref 20 :: st) h Q) : ME g u pc lv (.ref 2 :: st) h Q := m_getR (k' := 20) (ci := 1) (k := 2) (j := 12) (q := (RX1, TX1, 16)) (ref := "NotAtOnce$Draft") hd rfl (by decide) (by decide) rfl rfl tinX1 tgX1 (by rw [hu]; exact tw_163) rfl rfl rfl (by decide) kk
set_option maxRecDepth 100000 in
theorem pf_X3_24 {g : gT} {u : uT} {pc : Nat} {lv st : List Value} {h : mh_T} {Q : Option Value → mh_T → Prop} {v : Int32} (hu : u.1 = RX3) (hd : decode u.2.1 pc = .ok (.putfield 24, 3)) (kk : ME g u (pc + 3) lv st (wI h 8 0 v) Q) : ME g u pc lv (.int v :: .ref 8 :: st) h Q := m_putI (ty := .int) (ci := 3) (k := 8) (j := 0) (q := (RX3, TX3, 12)) (ref := "NotAtOnce$Frames") hd rfl (by decide) (by decide) rfl rfl tinX3 tgX3 (by rw [hu]; exact tw_161) rfl tyX3 tyX3_ok nmX3 rfl (by decide +kernel) rfl rfl rfl kk
set_option maxRecDepth 100000 in
theorem pf_X3_25 {g : gT} {u : uT} {pc : Nat} {lv st : List Value} {h : mh_T} {Q : Option Value → mh_T → Prop} {v : Int32} (hu : u.1 = RX3) (hd : decode u.2.1 pc = .ok (.putfield 25, 3)) (hz : v = 0 ∨ v = 1) (kk : ME g u (pc + 3) lv st (wI h 8 8 v) Q) : ME g u pc lv (.int v :: .ref 8 :: st) h Q := m_putI (ty := .boolean) (ci := 3) (k := 8) (j := 8) (q := (RX3, TX3, 12)) (ref := "NotAtOnce$Frames") hd rfl (by decide) (by decide) rfl rfl tinX3 tgX3 (by rw [hu]; exact tw_164) rfl tyX3 tyX3_ok nmX3 rfl (by decide +kernel) (by rcases hz with e | e <;> subst e <;> decide) (by rcases hz with e | e <;> subst e <;> decide) rfl kk
set_option maxRecDepth 100000 in
theorem lk_X3_36 : mLk RX3 36 yX3_findCorners uX3_findCorners 0 := ⟨tw_165, tw_166, tw_167, by decide +kernel, Nat.le_of_ble_eq_true rfl⟩
set_option maxRecDepth 100000 in
theorem cl_X3_36 {g : gT} {u : uT} {pc : Nat} {lv st : List Value} {h : mh_T} {Q : Option Value → mh_T → Prop} (hu : u.1 = RX3) (hK : 2 < u.2.2.2.2) (hd : decode u.2.1 pc = .ok (.invokevirtual 36, 3)) (hst : (st.map fun v => v.category).sum ≤ 8) (hM : MC g yX3_findCorners uX3_findCorners [.ref 8] h (fun v h' => ME g u (pc + 3) lv (v.toList ++ st) h' Q)) : ME g u pc lv (.ref 8 :: st) h Q := m_callV (As := []) (n := 0) (ci := 3) (k := 8) (q := (RX3, TX3, 12)) hd (by rw [hu]; exact lk_X3_36) tw_168 tw_169 rfl rfl (by decide) (by decide) rfl hK hst hM
set_option maxRecDepth 100000 in
theorem lk_X3_32 : mLk RX3 32 yX3_product uX3_product 3 := ⟨tw_170, tw_171, tw_167, by decide +kernel, Nat.le_of_ble_eq_true rfl⟩
set_option maxRecDepth 100000 in
theorem cl_X3_32 {g : gT} {u : uT} {pc : Nat} {lv st : List Value} {h : mh_T} {Q : Option Value → mh_T → Prop} {a1 a2 a3 : Value} (hu : u.1 = RX3) (hK : 1 < u.2.2.2.2) (hd : decode u.2.1 pc = .ok (.invokestatic 32, 3)) (hst : (st.map fun v => v.category).sum ≤ 8) (hM : MC g yX3_product uX3_product [a1, a2, a3] h (fun v h' => ME g u (pc + 3) lv (v.toList ++ st) h' Q)) : ME g u pc lv (a3 :: a2 :: a1 :: st) h Q := m_callS (As := [a1, a2, a3]) (n := 3) hd (by rw [hu]; exact lk_X3_32) tw_172 rfl hK hst hM
set_option maxRecDepth 100000 in
theorem pf_X3_39 {g : gT} {u : uT} {pc : Nat} {lv st : List Value} {h : mh_T} {Q : Option Value → mh_T → Prop} {v : Int32} (hu : u.1 = RX3) (hd : decode u.2.1 pc = .ok (.putfield 39, 3)) (kk : ME g u (pc + 3) lv st (wI h 8 1 v) Q) : ME g u pc lv (.int v :: .ref 8 :: st) h Q := m_putI (ty := .int) (ci := 3) (k := 8) (j := 1) (q := (RX3, TX3, 12)) (ref := "NotAtOnce$Frames") hd rfl (by decide) (by decide) rfl rfl tinX3 tgX3 (by rw [hu]; exact tw_173) rfl tyX3 tyX3_ok nmX3 rfl (by decide +kernel) rfl rfl rfl kk
set_option maxRecDepth 100000 in
theorem lk_X3_42 : mLk RX3 42 yX3_findCornersOf uX3_findCornersOf 2 := ⟨tw_174, tw_175, tw_167, by decide +kernel, Nat.le_of_ble_eq_true rfl⟩
set_option maxRecDepth 100000 in
theorem cl_X3_42 {g : gT} {u : uT} {pc : Nat} {lv st : List Value} {h : mh_T} {Q : Option Value → mh_T → Prop} {a1 a2 : Value} (hu : u.1 = RX3) (hK : 1 < u.2.2.2.2) (hd : decode u.2.1 pc = .ok (.invokevirtual 42, 3)) (hst : (st.map fun v => v.category).sum ≤ 8) (hM : MC g yX3_findCornersOf uX3_findCornersOf [.ref 8, a1, a2] h (fun v h' => ME g u (pc + 3) lv (v.toList ++ st) h' Q)) : ME g u pc lv (a2 :: a1 :: .ref 8 :: st) h Q := m_callV (As := [a1, a2]) (n := 2) (ci := 3) (k := 8) (q := (RX3, TX3, 12)) hd (by rw [hu]; exact lk_X3_42) tw_176 tw_177 rfl rfl (by decide) (by decide) rfl hK hst hM
set_option maxRecDepth 100000 in
theorem gf_X3_39 {g : gT} {u : uT} {pc : Nat} {lv st : List Value} {h : mh_T} {Q : Option Value → mh_T → Prop} (hu : u.1 = RX3) (hd : decode u.2.1 pc = .ok (.getfield 39, 3)) (kk : ME g u (pc + 3) lv (.int (mI h 8 1) :: st) h Q) : ME g u pc lv (.ref 8 :: st) h Q := m_getI (ci := 3) (k := 8) (j := 1) (q := (RX3, TX3, 12)) (ref := "NotAtOnce$Frames") hd rfl (by decide) (by decide) rfl rfl tinX3 tgX3 (by rw [hu]; exact tw_173) rfl rfl kk
set_option maxRecDepth 100000 in
theorem gf_X3_15 {g : gT} {u : uT} {pc : Nat} {lv st : List Value} {h : mh_T} {Q : Option Value → mh_T → Prop} (hu : u.1 = RX3) (hd : decode u.2.1 pc = .ok (.getfield 15, 3)) (kk : ME g u (pc + 3) lv (.ref 33 :: st) h Q) : ME g u pc lv (.ref 8 :: st) h Q := m_getR (k' := 33) (ci := 3) (k := 8) (j := 7) (q := (RX3, TX3, 12)) (ref := "NotAtOnce$Frames") hd rfl (by decide) (by decide) rfl rfl tinX3 tgX3 (by rw [hu]; exact tw_178) rfl rfl rfl (by decide) kk
set_option maxRecDepth 100000 in
theorem gf_X3_25 {g : gT} {u : uT} {pc : Nat} {lv st : List Value} {h : mh_T} {Q : Option Value → mh_T → Prop} (hu : u.1 = RX3) (hd : decode u.2.1 pc = .ok (.getfield 25, 3)) (kk : ME g u (pc + 3) lv (.int (mI h 8 8) :: st) h Q) : ME g u pc lv (.ref 8 :: st) h Q := m_getI (ci := 3) (k := 8) (j := 8) (q := (RX3, TX3, 12)) (ref := "NotAtOnce$Frames") hd rfl (by decide) (by decide) rfl rfl tinX3 tgX3 (by rw [hu]; exact tw_164) rfl rfl kk
set_option maxRecDepth 100000 in
theorem gf_X3_53 {g : gT} {u : uT} {pc : Nat} {lv st : List Value} {h : mh_T} {Q : Option Value → mh_T → Prop} (hu : u.1 = RX3) (hd : decode u.2.1 pc = .ok (.getfield 53, 3)) (kk : ME g u (pc + 3) lv (.int (mI h 8 11) :: st) h Q) : ME g u pc lv (.ref 8 :: st) h Q := m_getI (ci := 3) (k := 8) (j := 11) (q := (RX3, TX3, 12)) (ref := "NotAtOnce$Frames") hd rfl (by decide) (by decide) rfl rfl tinX3 tgX3 (by rw [hu]; exact tw_179) rfl rfl kk
set_option maxRecDepth 100000 in
theorem gf_X3_50 {g : gT} {u : uT} {pc : Nat} {lv st : List Value} {h : mh_T} {Q : Option Value → mh_T → Prop} (hu : u.1 = RX3) (hd : decode u.2.1 pc = .ok (.getfield 50, 3)) (kk : ME g u (pc + 3) lv (.int (mI h 8 2) :: st) h Q) : ME g u pc lv (.ref 8 :: st) h Q := m_getI (ci := 3) (k := 8) (j := 2) (q := (RX3, TX3, 12)) (ref := "NotAtOnce$Frames") hd rfl (by decide) (by decide) rfl rfl tinX3 tgX3 (by rw [hu]; exact tw_180) rfl rfl kk
set_option maxRecDepth 100000 in
theorem gf_X3_59 {g : gT} {u : uT} {pc : Nat} {lv st : List Value} {h : mh_T} {Q : Option Value → mh_T → Prop} (hu : u.1 = RX3) (hd : decode u.2.1 pc = .ok (.getfield 59, 3)) (kk : ME g u (pc + 3) lv (.int (mI h 8 4) :: st) h Q) : ME g u pc lv (.ref 8 :: st) h Q := m_getI (ci := 3) (k := 8) (j := 4) (q := (RX3, TX3, 12)) (ref := "NotAtOnce$Frames") hd rfl (by decide) (by decide) rfl rfl tinX3 tgX3 (by rw [hu]; exact tw_181) rfl rfl kk
set_option maxRecDepth 100000 in
theorem gf_X3_62 {g : gT} {u : uT} {pc : Nat} {lv st : List Value} {h : mh_T} {Q : Option Value → mh_T → Prop} (hu : u.1 = RX3) (hd : decode u.2.1 pc = .ok (.getfield 62, 3)) (kk : ME g u (pc + 3) lv (.int (mI h 8 5) :: st) h Q) : ME g u pc lv (.ref 8 :: st) h Q := m_getI (ci := 3) (k := 8) (j := 5) (q := (RX3, TX3, 12)) (ref := "NotAtOnce$Frames") hd rfl (by decide) (by decide) rfl rfl tinX3 tgX3 (by rw [hu]; exact tw_182) rfl rfl kk
set_option maxRecDepth 100000 in
theorem lk_X3_46 : mLk RX3 46 yX3_countColours uX3_countColours 1 := ⟨tw_183, tw_184, tw_167, by decide +kernel, Nat.le_of_ble_eq_true rfl⟩
set_option maxRecDepth 100000 in
theorem cl_X3_46 {g : gT} {u : uT} {pc : Nat} {lv st : List Value} {h : mh_T} {Q : Option Value → mh_T → Prop} {a1 : Value} (hu : u.1 = RX3) (hK : 31 < u.2.2.2.2) (hd : decode u.2.1 pc = .ok (.invokevirtual 46, 3)) (hst : (st.map fun v => v.category).sum ≤ 8) (hM : MC g yX3_countColours uX3_countColours [.ref 8, a1] h (fun v h' => ME g u (pc + 3) lv (v.toList ++ st) h' Q)) : ME g u pc lv (a1 :: .ref 8 :: st) h Q := m_callV (As := [a1]) (n := 1) (ci := 3) (k := 8) (q := (RX3, TX3, 12)) hd (by rw [hu]; exact lk_X3_46) tw_185 tw_186 rfl rfl (by decide) (by decide) rfl hK hst hM
set_option maxRecDepth 100000 in
theorem pf_X3_50 {g : gT} {u : uT} {pc : Nat} {lv st : List Value} {h : mh_T} {Q : Option Value → mh_T → Prop} {v : Int32} (hu : u.1 = RX3) (hd : decode u.2.1 pc = .ok (.putfield 50, 3)) (kk : ME g u (pc + 3) lv st (wI h 8 2 v) Q) : ME g u pc lv (.int v :: .ref 8 :: st) h Q := m_putI (ty := .int) (ci := 3) (k := 8) (j := 2) (q := (RX3, TX3, 12)) (ref := "NotAtOnce$Frames") hd rfl (by decide) (by decide) rfl rfl tinX3 tgX3 (by rw [hu]; exact tw_180) rfl tyX3 tyX3_ok nmX3 rfl (by decide +kernel) rfl rfl rfl kk
set_option maxRecDepth 100000 in
theorem pf_X3_56 {g : gT} {u : uT} {pc : Nat} {lv st : List Value} {h : mh_T} {Q : Option Value → mh_T → Prop} {v : Int32} (hu : u.1 = RX3) (hd : decode u.2.1 pc = .ok (.putfield 56, 3)) (kk : ME g u (pc + 3) lv st (wI h 8 3 v) Q) : ME g u pc lv (.int v :: .ref 8 :: st) h Q := m_putI (ty := .int) (ci := 3) (k := 8) (j := 3) (q := (RX3, TX3, 12)) (ref := "NotAtOnce$Frames") hd rfl (by decide) (by decide) rfl rfl tinX3 tgX3 (by rw [hu]; exact tw_187) rfl tyX3 tyX3_ok nmX3 rfl (by decide +kernel) rfl rfl rfl kk
set_option maxRecDepth 100000 in
theorem pf_X3_59 {g : gT} {u : uT} {pc : Nat} {lv st : List Value} {h : mh_T} {Q : Option Value → mh_T → Prop} {v : Int32} (hu : u.1 = RX3) (hd : decode u.2.1 pc = .ok (.putfield 59, 3)) (kk : ME g u (pc + 3) lv st (wI h 8 4 v) Q) : ME g u pc lv (.int v :: .ref 8 :: st) h Q := m_putI (ty := .int) (ci := 3) (k := 8) (j := 4) (q := (RX3, TX3, 12)) (ref := "NotAtOnce$Frames") hd rfl (by decide) (by decide) rfl rfl tinX3 tgX3 (by rw [hu]; exact tw_181) rfl tyX3 tyX3_ok nmX3 rfl (by decide +kernel) rfl rfl rfl kk
set_option maxRecDepth 100000 in
theorem pf_X3_62 {g : gT} {u : uT} {pc : Nat} {lv st : List Value} {h : mh_T} {Q : Option Value → mh_T → Prop} {v : Int32} (hu : u.1 = RX3) (hd : decode u.2.1 pc = .ok (.putfield 62, 3)) (kk : ME g u (pc + 3) lv st (wI h 8 5 v) Q) : ME g u pc lv (.int v :: .ref 8 :: st) h Q := m_putI (ty := .int) (ci := 3) (k := 8) (j := 5) (q := (RX3, TX3, 12)) (ref := "NotAtOnce$Frames") hd rfl (by decide) (by decide) rfl rfl tinX3 tgX3 (by rw [hu]; exact tw_182) rfl tyX3 tyX3_ok nmX3 rfl (by decide +kernel) rfl rfl rfl kk
set_option maxRecDepth 100000 in
theorem gf_X3_68 {g : gT} {u : uT} {pc : Nat} {lv st : List Value} {h : mh_T} {Q : Option Value → mh_T → Prop} (hu : u.1 = RX3) (hd : decode u.2.1 pc = .ok (.getfield 68, 3)) (kk : ME g u (pc + 3) lv (.int (mI h 8 10) :: st) h Q) : ME g u pc lv (.ref 8 :: st) h Q := m_getI (ci := 3) (k := 8) (j := 10) (q := (RX3, TX3, 12)) (ref := "NotAtOnce$Frames") hd rfl (by decide) (by decide) rfl rfl tinX3 tgX3 (by rw [hu]; exact tw_188) rfl rfl kk
set_option maxRecDepth 100000 in
theorem pf_X3_65 {g : gT} {u : uT} {pc : Nat} {lv st : List Value} {h : mh_T} {Q : Option Value → mh_T → Prop} {v : Int32} (hu : u.1 = RX3) (hd : decode u.2.1 pc = .ok (.putfield 65, 3)) (kk : ME g u (pc + 3) lv st (wI h 8 9 v) Q) : ME g u pc lv (.int v :: .ref 8 :: st) h Q := m_putI (ty := .int) (ci := 3) (k := 8) (j := 9) (q := (RX3, TX3, 12)) (ref := "NotAtOnce$Frames") hd rfl (by decide) (by decide) rfl rfl tinX3 tgX3 (by rw [hu]; exact tw_189) rfl tyX3 tyX3_ok nmX3 rfl (by decide +kernel) rfl rfl rfl kk
set_option maxRecDepth 100000 in
theorem pf_X3_68 {g : gT} {u : uT} {pc : Nat} {lv st : List Value} {h : mh_T} {Q : Option Value → mh_T → Prop} {v : Int32} (hu : u.1 = RX3) (hd : decode u.2.1 pc = .ok (.putfield 68, 3)) (kk : ME g u (pc + 3) lv st (wI h 8 10 v) Q) : ME g u pc lv (.int v :: .ref 8 :: st) h Q := m_putI (ty := .int) (ci := 3) (k := 8) (j := 10) (q := (RX3, TX3, 12)) (ref := "NotAtOnce$Frames") hd rfl (by decide) (by decide) rfl rfl tinX3 tgX3 (by rw [hu]; exact tw_188) rfl tyX3 tyX3_ok nmX3 rfl (by decide +kernel) rfl rfl rfl kk
set_option maxRecDepth 100000 in
theorem pf_X3_53 {g : gT} {u : uT} {pc : Nat} {lv st : List Value} {h : mh_T} {Q : Option Value → mh_T → Prop} {v : Int32} (hu : u.1 = RX3) (hd : decode u.2.1 pc = .ok (.putfield 53, 3)) (kk : ME g u (pc + 3) lv st (wI h 8 11 v) Q) : ME g u pc lv (.int v :: .ref 8 :: st) h Q := m_putI (ty := .int) (ci := 3) (k := 8) (j := 11) (q := (RX3, TX3, 12)) (ref := "NotAtOnce$Frames") hd rfl (by decide) (by decide) rfl rfl tinX3 tgX3 (by rw [hu]; exact tw_179) rfl tyX3 tyX3_ok nmX3 rfl (by decide +kernel) rfl rfl rfl kk
set_option maxRecDepth 100000 in
theorem lk_X3_71 {K : Nat} : mLk RX3 71 yX3_colour (uX3_colour K) 3 := ⟨tw_190, tw_191, tw_167, by decide +kernel, Nat.le_of_ble_eq_true rfl⟩
set_option maxRecDepth 100000 in
theorem cl_X3_71 {g : gT} {u : uT} {pc : Nat} {lv st : List Value} {h : mh_T} {Q : Option Value → mh_T → Prop} {K : Nat} {a1 a2 a3 : Value} (hu : u.1 = RX3) (hK : K < u.2.2.2.2) (hd : decode u.2.1 pc = .ok (.invokevirtual 71, 3)) (hst : (st.map fun v => v.category).sum ≤ 8) (hM : MC g yX3_colour (uX3_colour K) [.ref 8, a1, a2, a3] h (fun v h' => ME g u (pc + 3) lv (v.toList ++ st) h' Q)) : ME g u pc lv (a3 :: a2 :: a1 :: .ref 8 :: st) h Q := m_callV (As := [a1, a2, a3]) (n := 3) (ci := 3) (k := 8) (q := (RX3, TX3, 12)) hd (by rw [hu]; exact lk_X3_71) tw_192 tw_193 rfl rfl (by decide) (by decide) rfl hK hst hM
set_option maxRecDepth 100000 in
theorem gf_X3_65 {g : gT} {u : uT} {pc : Nat} {lv st : List Value} {h : mh_T} {Q : Option Value → mh_T → Prop} (hu : u.1 = RX3) (hd : decode u.2.1 pc = .ok (.getfield 65, 3)) (kk : ME g u (pc + 3) lv (.int (mI h 8 9) :: st) h Q) : ME g u pc lv (.ref 8 :: st) h Q := m_getI (ci := 3) (k := 8) (j := 9) (q := (RX3, TX3, 12)) (ref := "NotAtOnce$Frames") hd rfl (by decide) (by decide) rfl rfl tinX3 tgX3 (by rw [hu]; exact tw_189) rfl rfl kk
set_option maxRecDepth 100000 in
theorem lk_X3_75 : mLk RX3 75 yX3_mostMet uX3_mostMet 1 := ⟨tw_194, tw_195, tw_167, by decide +kernel, Nat.le_of_ble_eq_true rfl⟩
set_option maxRecDepth 100000 in
theorem cl_X3_75 {g : gT} {u : uT} {pc : Nat} {lv st : List Value} {h : mh_T} {Q : Option Value → mh_T → Prop} {a1 : Value} (hu : u.1 = RX3) (hK : 2 < u.2.2.2.2) (hd : decode u.2.1 pc = .ok (.invokevirtual 75, 3)) (hst : (st.map fun v => v.category).sum ≤ 8) (hM : MC g yX3_mostMet uX3_mostMet [.ref 8, a1] h (fun v h' => ME g u (pc + 3) lv (v.toList ++ st) h' Q)) : ME g u pc lv (a1 :: .ref 8 :: st) h Q := m_callV (As := [a1]) (n := 1) (ci := 3) (k := 8) (q := (RX3, TX3, 12)) hd (by rw [hu]; exact lk_X3_75) tw_196 tw_197 rfl rfl (by decide) (by decide) rfl hK hst hM
set_option maxRecDepth 100000 in
theorem lk_X3_78 : mLk RX3 78 yJ6_bitCount_0f7a4 uJ6_bitCount_0f7a4 1 := ⟨tw_98, tw_198, tw_100, by decide +kernel, Nat.le_of_ble_eq_true rfl⟩
set_option maxRecDepth 100000 in
theorem cl_X3_78 {g : gT} {u : uT} {pc : Nat} {lv st : List Value} {h : mh_T} {Q : Option Value → mh_T → Prop} {a1 : Value} (hu : u.1 = RX3) (hK : 1 < u.2.2.2.2) (hd : decode u.2.1 pc = .ok (.invokestatic 78, 3)) (hst : (st.map fun v => v.category).sum ≤ 8) (hM : MC g yJ6_bitCount_0f7a4 uJ6_bitCount_0f7a4 [a1] h (fun v h' => ME g u (pc + 3) lv (v.toList ++ st) h' Q)) : ME g u pc lv (a1 :: st) h Q := m_callS (As := [a1]) (n := 1) hd (by rw [hu]; exact lk_X3_78) tw_101 rfl hK hst hM
set_option maxRecDepth 100000 in
theorem cl_X3_83 {g : gT} {u : uT} {pc : Nat} {lv st : List Value} {h : mh_T} {Q : Option Value → mh_T → Prop} {a1 a2 : Value} (hu : u.1 = RX3) (hK : 1 < u.2.2.2.2) (hd : decode u.2.1 pc = .ok (.invokestatic 83, 3)) (hst : (st.map fun v => v.category).sum ≤ 8) (hM : MC g yX10_bitAt uX10_bitAt [a1, a2] h (fun v h' => ME g u (pc + 3) lv (v.toList ++ st) h' Q)) : ME g u pc lv (a2 :: a1 :: st) h Q := m_callSN (As := [a1, a2]) hu hd tw_200 tw_201 tw_202 (by decide) rfl hK hst hM
set_option maxRecDepth 100000 in
theorem gf_X9_31 {g : gT} {u : uT} {pc : Nat} {lv st : List Value} {h : mh_T} {Q : Option Value → mh_T → Prop} (hu : u.1 = RX9) (hd : decode u.2.1 pc = .ok (.getfield 31, 3)) (kk : ME g u (pc + 3) lv (.int (mI h 2 6) :: st) h Q) : ME g u pc lv (.ref 2 :: st) h Q := m_getI (ci := 1) (k := 2) (j := 6) (q := (RX1, TX1, 16)) (ref := "NotAtOnce$Draft") hd rfl (by decide) (by decide) rfl rfl tinX1 tgX1 (by rw [hu]; exact tw_203) rfl rfl kk
set_option maxRecDepth 100000 in
theorem gf_X9_37 {g : gT} {u : uT} {pc : Nat} {lv st : List Value} {h : mh_T} {Q : Option Value → mh_T → Prop} (hu : u.1 = RX9) (hd : decode u.2.1 pc = .ok (.getfield 37, 3)) (kk : ME g u (pc + 3) lv (.int (mI h 9 0) :: st) h Q) : ME g u pc lv (.ref 9 :: st) h Q := m_getI (ci := 9) (k := 9) (j := 0) (q := (RX9, TX9, 10)) (ref := "NotAtOnce$Telling") hd rfl (by decide) (by decide) rfl rfl tinX9 tgX9 (by rw [hu]; exact tw_204) rfl rfl kk
set_option maxRecDepth 100000 in
theorem gf_X9_45 {g : gT} {u : uT} {pc : Nat} {lv st : List Value} {h : mh_T} {Q : Option Value → mh_T → Prop} (hu : u.1 = RX9) (hd : decode u.2.1 pc = .ok (.getfield 45, 3)) (kk : ME g u (pc + 3) lv (.ref 21 :: st) h Q) : ME g u pc lv (.ref 2 :: st) h Q := m_getR (k' := 21) (ci := 1) (k := 2) (j := 13) (q := (RX1, TX1, 16)) (ref := "NotAtOnce$Draft") hd rfl (by decide) (by decide) rfl rfl tinX1 tgX1 (by rw [hu]; exact tw_205) rfl rfl rfl (by decide) kk
set_option maxRecDepth 100000 in
theorem gf_X9_9 {g : gT} {u : uT} {pc : Nat} {lv st : List Value} {h : mh_T} {Q : Option Value → mh_T → Prop} (hu : u.1 = RX9) (hd : decode u.2.1 pc = .ok (.getfield 9, 3)) (kk : ME g u (pc + 3) lv (.ref 34 :: st) h Q) : ME g u pc lv (.ref 9 :: st) h Q := m_getR (k' := 34) (ci := 9) (k := 9) (j := 4) (q := (RX9, TX9, 10)) (ref := "NotAtOnce$Telling") hd rfl (by decide) (by decide) rfl rfl tinX9 tgX9 (by rw [hu]; exact tw_206) rfl rfl rfl (by decide) kk
set_option maxRecDepth 100000 in
theorem gf_X9_38 {g : gT} {u : uT} {pc : Nat} {lv st : List Value} {h : mh_T} {Q : Option Value → mh_T → Prop} (hu : u.1 = RX9) (hd : decode u.2.1 pc = .ok (.getfield 38, 3)) (kk : ME g u (pc + 3) lv (.int (mI h 9 2) :: st) h Q) : ME g u pc lv (.ref 9 :: st) h Q := m_getI (ci := 9) (k := 9) (j := 2) (q := (RX9, TX9, 10)) (ref := "NotAtOnce$Telling") hd rfl (by decide) (by decide) rfl rfl tinX9 tgX9 (by rw [hu]; exact tw_207) rfl rfl kk
set_option maxRecDepth 100000 in
theorem gf_X9_48 {g : gT} {u : uT} {pc : Nat} {lv st : List Value} {h : mh_T} {Q : Option Value → mh_T → Prop} (hu : u.1 = RX9) (hd : decode u.2.1 pc = .ok (.getfield 48, 3)) (kk : ME g u (pc + 3) lv (.ref 22 :: st) h Q) : ME g u pc lv (.ref 2 :: st) h Q := m_getR (k' := 22) (ci := 1) (k := 2) (j := 14) (q := (RX1, TX1, 16)) (ref := "NotAtOnce$Draft") hd rfl (by decide) (by decide) rfl rfl tinX1 tgX1 (by rw [hu]; exact tw_208) rfl rfl rfl (by decide) kk
set_option maxRecDepth 100000 in
theorem gf_X9_15 {g : gT} {u : uT} {pc : Nat} {lv st : List Value} {h : mh_T} {Q : Option Value → mh_T → Prop} (hu : u.1 = RX9) (hd : decode u.2.1 pc = .ok (.getfield 15, 3)) (kk : ME g u (pc + 3) lv (.ref 35 :: st) h Q) : ME g u pc lv (.ref 9 :: st) h Q := m_getR (k' := 35) (ci := 9) (k := 9) (j := 5) (q := (RX9, TX9, 10)) (ref := "NotAtOnce$Telling") hd rfl (by decide) (by decide) rfl rfl tinX9 tgX9 (by rw [hu]; exact tw_209) rfl rfl rfl (by decide) kk
set_option maxRecDepth 100000 in
theorem gf_X9_49 {g : gT} {u : uT} {pc : Nat} {lv st : List Value} {h : mh_T} {Q : Option Value → mh_T → Prop} (hu : u.1 = RX9) (hd : decode u.2.1 pc = .ok (.getfield 49, 3)) (kk : ME g u (pc + 3) lv (.ref 23 :: st) h Q) : ME g u pc lv (.ref 2 :: st) h Q := m_getR (k' := 23) (ci := 1) (k := 2) (j := 15) (q := (RX1, TX1, 16)) (ref := "NotAtOnce$Draft") hd rfl (by decide) (by decide) rfl rfl tinX1 tgX1 (by rw [hu]; exact tw_210) rfl rfl rfl (by decide) kk
set_option maxRecDepth 100000 in
theorem gf_X9_18 {g : gT} {u : uT} {pc : Nat} {lv st : List Value} {h : mh_T} {Q : Option Value → mh_T → Prop} (hu : u.1 = RX9) (hd : decode u.2.1 pc = .ok (.getfield 18, 3)) (kk : ME g u (pc + 3) lv (.ref 36 :: st) h Q) : ME g u pc lv (.ref 9 :: st) h Q := m_getR (k' := 36) (ci := 9) (k := 9) (j := 6) (q := (RX9, TX9, 10)) (ref := "NotAtOnce$Telling") hd rfl (by decide) (by decide) rfl rfl tinX9 tgX9 (by rw [hu]; exact tw_211) rfl rfl rfl (by decide) kk
set_option maxRecDepth 100000 in
theorem pf_X9_37 {g : gT} {u : uT} {pc : Nat} {lv st : List Value} {h : mh_T} {Q : Option Value → mh_T → Prop} {v : Int32} (hu : u.1 = RX9) (hd : decode u.2.1 pc = .ok (.putfield 37, 3)) (kk : ME g u (pc + 3) lv st (wI h 9 0 v) Q) : ME g u pc lv (.int v :: .ref 9 :: st) h Q := m_putI (ty := .int) (ci := 9) (k := 9) (j := 0) (q := (RX9, TX9, 10)) (ref := "NotAtOnce$Telling") hd rfl (by decide) (by decide) rfl rfl tinX9 tgX9 (by rw [hu]; exact tw_204) rfl tyX9 tyX9_ok nmX9 rfl (by decide +kernel) rfl rfl rfl kk
set_option maxRecDepth 100000 in
theorem pf_X9_38 {g : gT} {u : uT} {pc : Nat} {lv st : List Value} {h : mh_T} {Q : Option Value → mh_T → Prop} {v : Int32} (hu : u.1 = RX9) (hd : decode u.2.1 pc = .ok (.putfield 38, 3)) (kk : ME g u (pc + 3) lv st (wI h 9 2 v) Q) : ME g u pc lv (.int v :: .ref 9 :: st) h Q := m_putI (ty := .int) (ci := 9) (k := 9) (j := 2) (q := (RX9, TX9, 10)) (ref := "NotAtOnce$Telling") hd rfl (by decide) (by decide) rfl rfl tinX9 tgX9 (by rw [hu]; exact tw_207) rfl tyX9 tyX9_ok nmX9 rfl (by decide +kernel) rfl rfl rfl kk
set_option maxRecDepth 100000 in
theorem pf_X9_41 {g : gT} {u : uT} {pc : Nat} {lv st : List Value} {h : mh_T} {Q : Option Value → mh_T → Prop} {v : Int32} (hu : u.1 = RX9) (hd : decode u.2.1 pc = .ok (.putfield 41, 3)) (hz : v = 0 ∨ v = 1) (kk : ME g u (pc + 3) lv st (wI h 9 3 v) Q) : ME g u pc lv (.int v :: .ref 9 :: st) h Q := m_putI (ty := .boolean) (ci := 9) (k := 9) (j := 3) (q := (RX9, TX9, 10)) (ref := "NotAtOnce$Telling") hd rfl (by decide) (by decide) rfl rfl tinX9 tgX9 (by rw [hu]; exact tw_212) rfl tyX9 tyX9_ok nmX9 rfl (by decide +kernel) (by rcases hz with e | e <;> subst e <;> decide) (by rcases hz with e | e <;> subst e <;> decide) rfl kk
set_option maxRecDepth 100000 in
theorem gf_X9_41 {g : gT} {u : uT} {pc : Nat} {lv st : List Value} {h : mh_T} {Q : Option Value → mh_T → Prop} (hu : u.1 = RX9) (hd : decode u.2.1 pc = .ok (.getfield 41, 3)) (kk : ME g u (pc + 3) lv (.int (mI h 9 3) :: st) h Q) : ME g u pc lv (.ref 9 :: st) h Q := m_getI (ci := 9) (k := 9) (j := 3) (q := (RX9, TX9, 10)) (ref := "NotAtOnce$Telling") hd rfl (by decide) (by decide) rfl rfl tinX9 tgX9 (by rw [hu]; exact tw_212) rfl rfl kk
set_option maxRecDepth 100000 in
theorem gf_X9_22 {g : gT} {u : uT} {pc : Nat} {lv st : List Value} {h : mh_T} {Q : Option Value → mh_T → Prop} (hu : u.1 = RX9) (hd : decode u.2.1 pc = .ok (.getfield 22, 3)) (kk : ME g u (pc + 3) lv (.ref 37 :: st) h Q) : ME g u pc lv (.ref 9 :: st) h Q := m_getR (k' := 37) (ci := 9) (k := 9) (j := 7) (q := (RX9, TX9, 10)) (ref := "NotAtOnce$Telling") hd rfl (by decide) (by decide) rfl rfl tinX9 tgX9 (by rw [hu]; exact tw_213) rfl rfl rfl (by decide) kk
set_option maxRecDepth 100000 in
theorem gf_X9_25 {g : gT} {u : uT} {pc : Nat} {lv st : List Value} {h : mh_T} {Q : Option Value → mh_T → Prop} (hu : u.1 = RX9) (hd : decode u.2.1 pc = .ok (.getfield 25, 3)) (kk : ME g u (pc + 3) lv (.ref 38 :: st) h Q) : ME g u pc lv (.ref 9 :: st) h Q := m_getR (k' := 38) (ci := 9) (k := 9) (j := 8) (q := (RX9, TX9, 10)) (ref := "NotAtOnce$Telling") hd rfl (by decide) (by decide) rfl rfl tinX9 tgX9 (by rw [hu]; exact tw_214) rfl rfl rfl (by decide) kk
set_option maxRecDepth 100000 in
theorem pf_X9_50 {g : gT} {u : uT} {pc : Nat} {lv st : List Value} {h : mh_T} {Q : Option Value → mh_T → Prop} {v : Int32} (hu : u.1 = RX9) (hd : decode u.2.1 pc = .ok (.putfield 50, 3)) (kk : ME g u (pc + 3) lv st (wI h 9 1 v) Q) : ME g u pc lv (.int v :: .ref 9 :: st) h Q := m_putI (ty := .int) (ci := 9) (k := 9) (j := 1) (q := (RX9, TX9, 10)) (ref := "NotAtOnce$Telling") hd rfl (by decide) (by decide) rfl rfl tinX9 tgX9 (by rw [hu]; exact tw_215) rfl tyX9 tyX9_ok nmX9 rfl (by decide +kernel) rfl rfl rfl kk
set_option maxRecDepth 100000 in
theorem lk_X9_53 {K : Nat} : mLk RX9 53 yX9_tell (uX9_tell K) 4 := ⟨tw_216, tw_217, tw_218, by decide +kernel, Nat.le_of_ble_eq_true rfl⟩
set_option maxRecDepth 100000 in
theorem cl_X9_53 {g : gT} {u : uT} {pc : Nat} {lv st : List Value} {h : mh_T} {Q : Option Value → mh_T → Prop} {K : Nat} {a1 a2 a3 a4 : Value} (hu : u.1 = RX9) (hK : K < u.2.2.2.2) (hd : decode u.2.1 pc = .ok (.invokevirtual 53, 3)) (hst : (st.map fun v => v.category).sum ≤ 8) (hM : MC g yX9_tell (uX9_tell K) [.ref 9, a1, a2, a3, a4] h (fun v h' => ME g u (pc + 3) lv (v.toList ++ st) h' Q)) : ME g u pc lv (a4 :: a3 :: a2 :: a1 :: .ref 9 :: st) h Q := m_callV (As := [a1, a2, a3, a4]) (n := 4) (ci := 9) (k := 9) (q := (RX9, TX9, 10)) hd (by rw [hu]; exact lk_X9_53) tw_219 tw_220 rfl rfl (by decide) (by decide) rfl hK hst hM
set_option maxRecDepth 100000 in
theorem gf_X9_28 {g : gT} {u : uT} {pc : Nat} {lv st : List Value} {h : mh_T} {Q : Option Value → mh_T → Prop} (hu : u.1 = RX9) (hd : decode u.2.1 pc = .ok (.getfield 28, 3)) (kk : ME g u (pc + 3) lv (.ref 39 :: st) h Q) : ME g u pc lv (.ref 9 :: st) h Q := m_getR (k' := 39) (ci := 9) (k := 9) (j := 9) (q := (RX9, TX9, 10)) (ref := "NotAtOnce$Telling") hd rfl (by decide) (by decide) rfl rfl tinX9 tgX9 (by rw [hu]; exact tw_221) rfl rfl rfl (by decide) kk
set_option maxRecDepth 100000 in
theorem gf_X9_50 {g : gT} {u : uT} {pc : Nat} {lv st : List Value} {h : mh_T} {Q : Option Value → mh_T → Prop} (hu : u.1 = RX9) (hd : decode u.2.1 pc = .ok (.getfield 50, 3)) (kk : ME g u (pc + 3) lv (.int (mI h 9 1) :: st) h Q) : ME g u pc lv (.ref 9 :: st) h Q := m_getI (ci := 9) (k := 9) (j := 1) (q := (RX9, TX9, 10)) (ref := "NotAtOnce$Telling") hd rfl (by decide) (by decide) rfl rfl tinX9 tgX9 (by rw [hu]; exact tw_215) rfl rfl kk
set_option maxRecDepth 100000 in
theorem lk_X9_57 {K : Nat} : mLk RX9 57 yX9_tellOn (uX9_tellOn K) 4 := ⟨tw_223, tw_224, tw_218, by decide +kernel, Nat.le_of_ble_eq_true rfl⟩
set_option maxRecDepth 100000 in
theorem cl_X9_57 {g : gT} {u : uT} {pc : Nat} {lv st : List Value} {h : mh_T} {Q : Option Value → mh_T → Prop} {K : Nat} {a1 a2 a3 a4 : Value} (hu : u.1 = RX9) (hK : K < u.2.2.2.2) (hd : decode u.2.1 pc = .ok (.invokevirtual 57, 3)) (hst : (st.map fun v => v.category).sum ≤ 8) (hM : MC g yX9_tellOn (uX9_tellOn K) [.ref 9, a1, a2, a3, a4] h (fun v h' => ME g u (pc + 3) lv (v.toList ++ st) h' Q)) : ME g u pc lv (a4 :: a3 :: a2 :: a1 :: .ref 9 :: st) h Q := m_callV (As := [a1, a2, a3, a4]) (n := 4) (ci := 9) (k := 9) (q := (RX9, TX9, 10)) hd (by rw [hu]; exact lk_X9_57) tw_225 tw_226 rfl rfl (by decide) (by decide) rfl hK hst hM
set_option maxRecDepth 100000 in
theorem pf_X4_28 {g : gT} {u : uT} {pc : Nat} {lv st : List Value} {h : mh_T} {Q : Option Value → mh_T → Prop} {v : Int32} (hu : u.1 = RX4) (hd : decode u.2.1 pc = .ok (.putfield 28, 3)) (kk : ME g u (pc + 3) lv st (wI h 10 0 v) Q) : ME g u pc lv (.int v :: .ref 10 :: st) h Q := m_putI (ty := .int) (ci := 4) (k := 10) (j := 0) (q := (RX4, TX4, 7)) (ref := "NotAtOnce$History") hd rfl (by decide) (by decide) rfl rfl tinX4 tgX4 (by rw [hu]; exact tw_228) rfl tyX4 tyX4_ok nmX4 rfl (by decide +kernel) rfl rfl rfl kk
set_option maxRecDepth 100000 in
theorem pf_X4_32 {g : gT} {u : uT} {pc : Nat} {lv st : List Value} {h : mh_T} {Q : Option Value → mh_T → Prop} {v : Int32} (hu : u.1 = RX4) (hd : decode u.2.1 pc = .ok (.putfield 32, 3)) (kk : ME g u (pc + 3) lv st (wI h 10 1 v) Q) : ME g u pc lv (.int v :: .ref 10 :: st) h Q := m_putI (ty := .int) (ci := 4) (k := 10) (j := 1) (q := (RX4, TX4, 7)) (ref := "NotAtOnce$History") hd rfl (by decide) (by decide) rfl rfl tinX4 tgX4 (by rw [hu]; exact tw_229) rfl tyX4 tyX4_ok nmX4 rfl (by decide +kernel) rfl rfl rfl kk
set_option maxRecDepth 100000 in
theorem pf_X4_35 {g : gT} {u : uT} {pc : Nat} {lv st : List Value} {h : mh_T} {Q : Option Value → mh_T → Prop} {v : Int32} (hu : u.1 = RX4) (hd : decode u.2.1 pc = .ok (.putfield 35, 3)) (kk : ME g u (pc + 3) lv st (wI h 10 2 v) Q) : ME g u pc lv (.int v :: .ref 10 :: st) h Q := m_putI (ty := .int) (ci := 4) (k := 10) (j := 2) (q := (RX4, TX4, 7)) (ref := "NotAtOnce$History") hd rfl (by decide) (by decide) rfl rfl tinX4 tgX4 (by rw [hu]; exact tw_230) rfl tyX4 tyX4_ok nmX4 rfl (by decide +kernel) rfl rfl rfl kk
set_option maxRecDepth 100000 in
theorem gf_X4_28 {g : gT} {u : uT} {pc : Nat} {lv st : List Value} {h : mh_T} {Q : Option Value → mh_T → Prop} (hu : u.1 = RX4) (hd : decode u.2.1 pc = .ok (.getfield 28, 3)) (kk : ME g u (pc + 3) lv (.int (mI h 10 0) :: st) h Q) : ME g u pc lv (.ref 10 :: st) h Q := m_getI (ci := 4) (k := 10) (j := 0) (q := (RX4, TX4, 7)) (ref := "NotAtOnce$History") hd rfl (by decide) (by decide) rfl rfl tinX4 tgX4 (by rw [hu]; exact tw_228) rfl rfl kk
set_option maxRecDepth 100000 in
theorem gf_X4_24 {g : gT} {u : uT} {pc : Nat} {lv st : List Value} {h : mh_T} {Q : Option Value → mh_T → Prop} (hu : u.1 = RX4) (hd : decode u.2.1 pc = .ok (.getfield 24, 3)) (kk : ME g u (pc + 3) lv (.ref 3 :: st) h Q) : ME g u pc lv (.ref 10 :: st) h Q := m_getR (k' := 3) (ci := 4) (k := 10) (j := 6) (q := (RX4, TX4, 7)) (ref := "NotAtOnce$History") hd rfl (by decide) (by decide) rfl rfl tinX4 tgX4 (by rw [hu]; exact tw_231) rfl rfl rfl (by decide) kk
set_option maxRecDepth 100000 in
theorem gf_X4_18 {g : gT} {u : uT} {pc : Nat} {lv st : List Value} {h : mh_T} {Q : Option Value → mh_T → Prop} (hu : u.1 = RX4) (hd : decode u.2.1 pc = .ok (.getfield 18, 3)) (kk : ME g u (pc + 3) lv (.ref 41 :: st) h Q) : ME g u pc lv (.ref 10 :: st) h Q := m_getR (k' := 41) (ci := 4) (k := 10) (j := 4) (q := (RX4, TX4, 7)) (ref := "NotAtOnce$History") hd rfl (by decide) (by decide) rfl rfl tinX4 tgX4 (by rw [hu]; exact tw_232) rfl rfl rfl (by decide) kk
set_option maxRecDepth 100000 in
theorem gf_X4_13 {g : gT} {u : uT} {pc : Nat} {lv st : List Value} {h : mh_T} {Q : Option Value → mh_T → Prop} (hu : u.1 = RX4) (hd : decode u.2.1 pc = .ok (.getfield 13, 3)) (kk : ME g u (pc + 3) lv (.ref 40 :: st) h Q) : ME g u pc lv (.ref 10 :: st) h Q := m_getR (k' := 40) (ci := 4) (k := 10) (j := 3) (q := (RX4, TX4, 7)) (ref := "NotAtOnce$History") hd rfl (by decide) (by decide) rfl rfl tinX4 tgX4 (by rw [hu]; exact tw_233) rfl rfl rfl (by decide) kk
set_option maxRecDepth 100000 in
theorem lk_X4_41 : mLk RX4 41 yX8_save uX8_save 1 := ⟨tw_234, tw_235, tw_46, by decide +kernel, Nat.le_of_ble_eq_true rfl⟩
set_option maxRecDepth 100000 in
theorem cl_X4_41 {g : gT} {u : uT} {pc : Nat} {lv st : List Value} {h : mh_T} {Q : Option Value → mh_T → Prop} {a1 : Value} (hu : u.1 = RX4) (hK : 1 < u.2.2.2.2) (hd : decode u.2.1 pc = .ok (.invokevirtual 41, 3)) (hst : (st.map fun v => v.category).sum ≤ 8) (hM : MC g yX8_save uX8_save [.ref 3, a1] h (fun v h' => ME g u (pc + 3) lv (v.toList ++ st) h' Q)) : ME g u pc lv (a1 :: .ref 3 :: st) h Q := m_callV (As := [a1]) (n := 1) (ci := 8) (k := 3) (q := (RX8, TX8, 8)) hd (by rw [hu]; exact lk_X4_41) tw_236 tw_237 rfl rfl (by decide) (by decide) rfl hK hst hM
set_option maxRecDepth 100000 in
theorem lk_X4_38 : mLk RX4 38 yX4_leaveOldest uX4_leaveOldest 0 := ⟨tw_238, tw_239, tw_240, by decide +kernel, Nat.le_of_ble_eq_true rfl⟩
set_option maxRecDepth 100000 in
theorem cl_X4_38 {g : gT} {u : uT} {pc : Nat} {lv st : List Value} {h : mh_T} {Q : Option Value → mh_T → Prop} (hu : u.1 = RX4) (hK : 1 < u.2.2.2.2) (hd : decode u.2.1 pc = .ok (.invokevirtual 38, 3)) (hst : (st.map fun v => v.category).sum ≤ 8) (hM : MC g yX4_leaveOldest uX4_leaveOldest [.ref 10] h (fun v h' => ME g u (pc + 3) lv (v.toList ++ st) h' Q)) : ME g u pc lv (.ref 10 :: st) h Q := m_callV (As := []) (n := 0) (ci := 4) (k := 10) (q := (RX4, TX4, 7)) hd (by rw [hu]; exact lk_X4_38) tw_241 tw_242 rfl rfl (by decide) (by decide) rfl hK hst hM
set_option maxRecDepth 100000 in
theorem lk_X4_45 : mLk RX4 45 yX8_restore uX8_restore 1 := ⟨tw_243, tw_244, tw_46, by decide +kernel, Nat.le_of_ble_eq_true rfl⟩
set_option maxRecDepth 100000 in
theorem cl_X4_45 {g : gT} {u : uT} {pc : Nat} {lv st : List Value} {h : mh_T} {Q : Option Value → mh_T → Prop} {a1 : Value} (hu : u.1 = RX4) (hK : 2 < u.2.2.2.2) (hd : decode u.2.1 pc = .ok (.invokevirtual 45, 3)) (hst : (st.map fun v => v.category).sum ≤ 8) (hM : MC g yX8_restore uX8_restore [.ref 3, a1] h (fun v h' => ME g u (pc + 3) lv (v.toList ++ st) h' Q)) : ME g u pc lv (a1 :: .ref 3 :: st) h Q := m_callV (As := [a1]) (n := 1) (ci := 8) (k := 3) (q := (RX8, TX8, 8)) hd (by rw [hu]; exact lk_X4_45) tw_245 tw_246 rfl rfl (by decide) (by decide) rfl hK hst hM
set_option maxRecDepth 100000 in
theorem gf_X4_32 {g : gT} {u : uT} {pc : Nat} {lv st : List Value} {h : mh_T} {Q : Option Value → mh_T → Prop} (hu : u.1 = RX4) (hd : decode u.2.1 pc = .ok (.getfield 32, 3)) (kk : ME g u (pc + 3) lv (.int (mI h 10 1) :: st) h Q) : ME g u pc lv (.ref 10 :: st) h Q := m_getI (ci := 4) (k := 10) (j := 1) (q := (RX4, TX4, 7)) (ref := "NotAtOnce$History") hd rfl (by decide) (by decide) rfl rfl tinX4 tgX4 (by rw [hu]; exact tw_229) rfl rfl kk
set_option maxRecDepth 100000 in
theorem gf_X4_21 {g : gT} {u : uT} {pc : Nat} {lv st : List Value} {h : mh_T} {Q : Option Value → mh_T → Prop} (hu : u.1 = RX4) (hd : decode u.2.1 pc = .ok (.getfield 21, 3)) (kk : ME g u (pc + 3) lv (.ref 42 :: st) h Q) : ME g u pc lv (.ref 10 :: st) h Q := m_getR (k' := 42) (ci := 4) (k := 10) (j := 5) (q := (RX4, TX4, 7)) (ref := "NotAtOnce$History") hd rfl (by decide) (by decide) rfl rfl tinX4 tgX4 (by rw [hu]; exact tw_247) rfl rfl rfl (by decide) kk
set_option maxRecDepth 100000 in
theorem gf_X4_35 {g : gT} {u : uT} {pc : Nat} {lv st : List Value} {h : mh_T} {Q : Option Value → mh_T → Prop} (hu : u.1 = RX4) (hd : decode u.2.1 pc = .ok (.getfield 35, 3)) (kk : ME g u (pc + 3) lv (.int (mI h 10 2) :: st) h Q) : ME g u pc lv (.ref 10 :: st) h Q := m_getI (ci := 4) (k := 10) (j := 2) (q := (RX4, TX4, 7)) (ref := "NotAtOnce$History") hd rfl (by decide) (by decide) rfl rfl tinX4 tgX4 (by rw [hu]; exact tw_230) rfl rfl kk
set_option maxRecDepth 100000 in
theorem gf_X0_27 {g : gT} {u : uT} {pc : Nat} {lv st : List Value} {h : mh_T} {Q : Option Value → mh_T → Prop} (hu : u.1 = RX0) (hd : decode u.2.1 pc = .ok (.getfield 27, 3)) (kk : ME g u (pc + 3) lv (.ref 3 :: st) h Q) : ME g u pc lv (.ref 6 :: st) h Q := m_getR (k' := 3) (ci := 0) (k := 6) (j := 0) (q := (RX0, TX0, 9)) (ref := "NotAtOnce$Blend") hd rfl (by decide) (by decide) rfl rfl tinX0 tgX0 (by rw [hu]; exact tw_248) rfl rfl rfl (by decide) kk
set_option maxRecDepth 100000 in
theorem gf_X0_44 {g : gT} {u : uT} {pc : Nat} {lv st : List Value} {h : mh_T} {Q : Option Value → mh_T → Prop} (hu : u.1 = RX0) (hd : decode u.2.1 pc = .ok (.getfield 44, 3)) (kk : ME g u (pc + 3) lv (.int (mI h 3 2) :: st) h Q) : ME g u pc lv (.ref 3 :: st) h Q := m_getI (ci := 8) (k := 3) (j := 2) (q := (RX8, TX8, 8)) (ref := "NotAtOnce$Table") hd rfl (by decide) (by decide) rfl rfl tinX8 tgX8 (by rw [hu]; exact tw_249) rfl rfl kk
set_option maxRecDepth 100000 in
theorem gf_X0_31 {g : gT} {u : uT} {pc : Nat} {lv st : List Value} {h : mh_T} {Q : Option Value → mh_T → Prop} (hu : u.1 = RX0) (hd : decode u.2.1 pc = .ok (.getfield 31, 3)) (kk : ME g u (pc + 3) lv (.ref 5 :: st) h Q) : ME g u pc lv (.ref 6 :: st) h Q := m_getR (k' := 5) (ci := 0) (k := 6) (j := 1) (q := (RX0, TX0, 9)) (ref := "NotAtOnce$Blend") hd rfl (by decide) (by decide) rfl rfl tinX0 tgX0 (by rw [hu]; exact tw_250) rfl rfl rfl (by decide) kk
set_option maxRecDepth 100000 in
theorem gf_X0_13 {g : gT} {u : uT} {pc : Nat} {lv st : List Value} {h : mh_T} {Q : Option Value → mh_T → Prop} (hu : u.1 = RX0) (hd : decode u.2.1 pc = .ok (.getfield 13, 3)) (kk : ME g u (pc + 3) lv (.ref 28 :: st) h Q) : ME g u pc lv (.ref 6 :: st) h Q := m_getR (k' := 28) (ci := 0) (k := 6) (j := 2) (q := (RX0, TX0, 9)) (ref := "NotAtOnce$Blend") hd rfl (by decide) (by decide) rfl rfl tinX0 tgX0 (by rw [hu]; exact tw_251) rfl rfl rfl (by decide) kk
set_option maxRecDepth 100000 in
theorem gf_X0_56 {g : gT} {u : uT} {pc : Nat} {lv st : List Value} {h : mh_T} {Q : Option Value → mh_T → Prop} (hu : u.1 = RX0) (hd : decode u.2.1 pc = .ok (.getfield 56, 3)) (kk : ME g u (pc + 3) lv (.int (mI h 6 6) :: st) h Q) : ME g u pc lv (.ref 6 :: st) h Q := m_getI (ci := 0) (k := 6) (j := 6) (q := (RX0, TX0, 9)) (ref := "NotAtOnce$Blend") hd rfl (by decide) (by decide) rfl rfl tinX0 tgX0 (by rw [hu]; exact tw_252) rfl rfl kk
set_option maxRecDepth 100000 in
theorem gf_X0_23 {g : gT} {u : uT} {pc : Nat} {lv st : List Value} {h : mh_T} {Q : Option Value → mh_T → Prop} (hu : u.1 = RX0) (hd : decode u.2.1 pc = .ok (.getfield 23, 3)) (kk : ME g u (pc + 3) lv (.long (mL h 6 7) :: st) h Q) : ME g u pc lv (.ref 6 :: st) h Q := m_getL (ci := 0) (k := 6) (j := 7) (q := (RX0, TX0, 9)) (ref := "NotAtOnce$Blend") hd rfl (by decide) (by decide) rfl rfl tinX0 tgX0 (by rw [hu]; exact tw_253) rfl rfl kk
set_option maxRecDepth 100000 in
theorem gf_X0_59 {g : gT} {u : uT} {pc : Nat} {lv st : List Value} {h : mh_T} {Q : Option Value → mh_T → Prop} (hu : u.1 = RX0) (hd : decode u.2.1 pc = .ok (.getfield 59, 3)) (kk : ME g u (pc + 3) lv (.int (mI h 3 0) :: st) h Q) : ME g u pc lv (.ref 3 :: st) h Q := m_getI (ci := 8) (k := 3) (j := 0) (q := (RX8, TX8, 8)) (ref := "NotAtOnce$Table") hd rfl (by decide) (by decide) rfl rfl tinX8 tgX8 (by rw [hu]; exact tw_254) rfl rfl kk
set_option maxRecDepth 100000 in
theorem lk_X0_53 : mLk RX0 53 yX0_solve uX0_solve 0 := ⟨tw_255, tw_256, tw_257, by decide +kernel, Nat.le_of_ble_eq_true rfl⟩
set_option maxRecDepth 100000 in
theorem cl_X0_53 {g : gT} {u : uT} {pc : Nat} {lv st : List Value} {h : mh_T} {Q : Option Value → mh_T → Prop} (hu : u.1 = RX0) (hK : 4 < u.2.2.2.2) (hd : decode u.2.1 pc = .ok (.invokevirtual 53, 3)) (hst : (st.map fun v => v.category).sum ≤ 8) (hM : MC g yX0_solve uX0_solve [.ref 6] h (fun v h' => ME g u (pc + 3) lv (v.toList ++ st) h' Q)) : ME g u pc lv (.ref 6 :: st) h Q := m_callV (As := []) (n := 0) (ci := 0) (k := 6) (q := (RX0, TX0, 9)) hd (by rw [hu]; exact lk_X0_53) tw_258 tw_259 rfl rfl (by decide) (by decide) rfl hK hst hM
set_option maxRecDepth 100000 in
theorem lk_X0_47 : mLk RX0 47 yX2_set uX2_set 2 := ⟨tw_260, tw_261, tw_92, by decide +kernel, Nat.le_of_ble_eq_true rfl⟩
set_option maxRecDepth 100000 in
theorem cl_X0_47 {g : gT} {u : uT} {pc : Nat} {lv st : List Value} {h : mh_T} {Q : Option Value → mh_T → Prop} {a1 a2 : Value} (hu : u.1 = RX0) (hK : 2 < u.2.2.2.2) (hd : decode u.2.1 pc = .ok (.invokevirtual 47, 3)) (hst : (st.map fun v => v.category).sum ≤ 8) (hM : MC g yX2_set uX2_set [.ref 5, a1, a2] h (fun v h' => ME g u (pc + 3) lv (v.toList ++ st) h' Q)) : ME g u pc lv (a2 :: a1 :: .ref 5 :: st) h Q := m_callV (As := [a1, a2]) (n := 2) (ci := 2) (k := 5) (q := (RX2, TX2, 2)) hd (by rw [hu]; exact lk_X0_47) tw_262 tw_263 rfl rfl (by decide) (by decide) rfl hK hst hM
set_option maxRecDepth 100000 in
theorem lk_X0_62 : mLk RX0 62 yX0_aim uX0_aim 3 := ⟨tw_264, tw_265, tw_257, by decide +kernel, Nat.le_of_ble_eq_true rfl⟩
set_option maxRecDepth 100000 in
theorem cl_X0_62 {g : gT} {u : uT} {pc : Nat} {lv st : List Value} {h : mh_T} {Q : Option Value → mh_T → Prop} {a1 a2 a3 : Value} (hu : u.1 = RX0) (hK : 2 < u.2.2.2.2) (hd : decode u.2.1 pc = .ok (.invokevirtual 62, 3)) (hst : (st.map fun v => v.category).sum ≤ 8) (hM : MC g yX0_aim uX0_aim [.ref 6, a1, a2, a3] h (fun v h' => ME g u (pc + 3) lv (v.toList ++ st) h' Q)) : ME g u pc lv (a3 :: a2 :: a1 :: .ref 6 :: st) h Q := m_callV (As := [a1, a2, a3]) (n := 3) (ci := 0) (k := 6) (q := (RX0, TX0, 9)) hd (by rw [hu]; exact lk_X0_62) tw_266 tw_267 rfl rfl (by decide) (by decide) rfl hK hst hM
set_option maxRecDepth 100000 in
theorem lk_X0_66 : mLk RX0 66 yX0_climb uX0_climb 1 := ⟨tw_268, tw_269, tw_257, by decide +kernel, Nat.le_of_ble_eq_true rfl⟩
set_option maxRecDepth 100000 in
theorem cl_X0_66 {g : gT} {u : uT} {pc : Nat} {lv st : List Value} {h : mh_T} {Q : Option Value → mh_T → Prop} {a1 : Value} (hu : u.1 = RX0) (hK : 3 < u.2.2.2.2) (hd : decode u.2.1 pc = .ok (.invokevirtual 66, 3)) (hst : (st.map fun v => v.category).sum ≤ 8) (hM : MC g yX0_climb uX0_climb [.ref 6, a1] h (fun v h' => ME g u (pc + 3) lv (v.toList ++ st) h' Q)) : ME g u pc lv (a1 :: .ref 6 :: st) h Q := m_callV (As := [a1]) (n := 1) (ci := 0) (k := 6) (q := (RX0, TX0, 9)) hd (by rw [hu]; exact lk_X0_66) tw_270 tw_271 rfl rfl (by decide) (by decide) rfl hK hst hM
set_option maxRecDepth 100000 in
theorem gf_X0_41 {g : gT} {u : uT} {pc : Nat} {lv st : List Value} {h : mh_T} {Q : Option Value → mh_T → Prop} (hu : u.1 = RX0) (hd : decode u.2.1 pc = .ok (.getfield 41, 3)) (kk : ME g u (pc + 3) lv (.int (mI h 6 8) :: st) h Q) : ME g u pc lv (.ref 6 :: st) h Q := m_getI (ci := 0) (k := 6) (j := 8) (q := (RX0, TX0, 9)) (ref := "NotAtOnce$Blend") hd rfl (by decide) (by decide) rfl rfl tinX0 tgX0 (by rw [hu]; exact tw_272) rfl rfl kk
set_option maxRecDepth 100000 in
theorem gf_X0_35 {g : gT} {u : uT} {pc : Nat} {lv st : List Value} {h : mh_T} {Q : Option Value → mh_T → Prop} (hu : u.1 = RX0) (hd : decode u.2.1 pc = .ok (.getfield 35, 3)) (kk : ME g u (pc + 3) lv (.int (mI h 3 3) :: st) h Q) : ME g u pc lv (.ref 3 :: st) h Q := m_getI (ci := 8) (k := 3) (j := 3) (q := (RX8, TX8, 8)) (ref := "NotAtOnce$Table") hd rfl (by decide) (by decide) rfl rfl tinX8 tgX8 (by rw [hu]; exact tw_273) rfl rfl kk
set_option maxRecDepth 100000 in
theorem pf_X0_41 {g : gT} {u : uT} {pc : Nat} {lv st : List Value} {h : mh_T} {Q : Option Value → mh_T → Prop} {v : Int32} (hu : u.1 = RX0) (hd : decode u.2.1 pc = .ok (.putfield 41, 3)) (kk : ME g u (pc + 3) lv st (wI h 6 8 v) Q) : ME g u pc lv (.int v :: .ref 6 :: st) h Q := m_putI (ty := .int) (ci := 0) (k := 6) (j := 8) (q := (RX0, TX0, 9)) (ref := "NotAtOnce$Blend") hd rfl (by decide) (by decide) rfl rfl tinX0 tgX0 (by rw [hu]; exact tw_272) rfl tyX0 tyX0_ok nmX0 rfl (by decide +kernel) rfl rfl rfl kk
set_option maxRecDepth 100000 in
theorem lk_X0_70 : mLk RX0 70 yX0_nameColumns uX0_nameColumns 0 := ⟨tw_274, tw_275, tw_257, by decide +kernel, Nat.le_of_ble_eq_true rfl⟩
set_option maxRecDepth 100000 in
theorem cl_X0_70 {g : gT} {u : uT} {pc : Nat} {lv st : List Value} {h : mh_T} {Q : Option Value → mh_T → Prop} (hu : u.1 = RX0) (hK : 3 < u.2.2.2.2) (hd : decode u.2.1 pc = .ok (.invokevirtual 70, 3)) (hst : (st.map fun v => v.category).sum ≤ 8) (hM : MC g yX0_nameColumns uX0_nameColumns [.ref 6] h (fun v h' => ME g u (pc + 3) lv (v.toList ++ st) h' Q)) : ME g u pc lv (.ref 6 :: st) h Q := m_callV (As := []) (n := 0) (ci := 0) (k := 6) (q := (RX0, TX0, 9)) hd (by rw [hu]; exact lk_X0_70) tw_276 tw_277 rfl rfl (by decide) (by decide) rfl hK hst hM
set_option maxRecDepth 100000 in
theorem lk_X0_73 : mLk RX0 73 yX0_fillRows uX0_fillRows 0 := ⟨tw_278, tw_279, tw_257, by decide +kernel, Nat.le_of_ble_eq_true rfl⟩
set_option maxRecDepth 100000 in
theorem cl_X0_73 {g : gT} {u : uT} {pc : Nat} {lv st : List Value} {h : mh_T} {Q : Option Value → mh_T → Prop} (hu : u.1 = RX0) (hK : 2 < u.2.2.2.2) (hd : decode u.2.1 pc = .ok (.invokevirtual 73, 3)) (hst : (st.map fun v => v.category).sum ≤ 8) (hM : MC g yX0_fillRows uX0_fillRows [.ref 6] h (fun v h' => ME g u (pc + 3) lv (v.toList ++ st) h' Q)) : ME g u pc lv (.ref 6 :: st) h Q := m_callV (As := []) (n := 0) (ci := 0) (k := 6) (q := (RX0, TX0, 9)) hd (by rw [hu]; exact lk_X0_73) tw_280 tw_281 rfl rfl (by decide) (by decide) rfl hK hst hM
set_option maxRecDepth 100000 in
theorem pf_X0_23 {g : gT} {u : uT} {pc : Nat} {lv st : List Value} {h : mh_T} {Q : Option Value → mh_T → Prop} {v : Int64} (hu : u.1 = RX0) (hd : decode u.2.1 pc = .ok (.putfield 23, 3)) (kk : ME g u (pc + 3) lv st (wL h 6 7 v) Q) : ME g u pc lv (.long v :: .ref 6 :: st) h Q := m_putL (ty := .long) (ci := 0) (k := 6) (j := 7) (q := (RX0, TX0, 9)) (ref := "NotAtOnce$Blend") hd rfl (by decide) (by decide) rfl rfl tinX0 tgX0 (by rw [hu]; exact tw_253) rfl tyX0 tyX0_ok nmX0 rfl (by decide +kernel) rfl rfl rfl kk
set_option maxRecDepth 100000 in
theorem gf_X0_20 {g : gT} {u : uT} {pc : Nat} {lv st : List Value} {h : mh_T} {Q : Option Value → mh_T → Prop} (hu : u.1 = RX0) (hd : decode u.2.1 pc = .ok (.getfield 20, 3)) (kk : ME g u (pc + 3) lv (.ref 30 :: st) h Q) : ME g u pc lv (.ref 6 :: st) h Q := m_getR (k' := 30) (ci := 0) (k := 6) (j := 4) (q := (RX0, TX0, 9)) (ref := "NotAtOnce$Blend") hd rfl (by decide) (by decide) rfl rfl tinX0 tgX0 (by rw [hu]; exact tw_283) rfl rfl rfl (by decide) kk
set_option maxRecDepth 100000 in
theorem pf_X0_56 {g : gT} {u : uT} {pc : Nat} {lv st : List Value} {h : mh_T} {Q : Option Value → mh_T → Prop} {v : Int32} (hu : u.1 = RX0) (hd : decode u.2.1 pc = .ok (.putfield 56, 3)) (kk : ME g u (pc + 3) lv st (wI h 6 6 v) Q) : ME g u pc lv (.int v :: .ref 6 :: st) h Q := m_putI (ty := .int) (ci := 0) (k := 6) (j := 6) (q := (RX0, TX0, 9)) (ref := "NotAtOnce$Blend") hd rfl (by decide) (by decide) rfl rfl tinX0 tgX0 (by rw [hu]; exact tw_252) rfl tyX0 tyX0_ok nmX0 rfl (by decide +kernel) rfl rfl rfl kk
set_option maxRecDepth 100000 in
theorem lk_X0_78 : mLk RX0 78 yX8_hiddenAnswers uX8_hiddenAnswers 0 := ⟨tw_62, tw_284, tw_46, by decide +kernel, Nat.le_of_ble_eq_true rfl⟩
set_option maxRecDepth 100000 in
theorem cl_X0_78 {g : gT} {u : uT} {pc : Nat} {lv st : List Value} {h : mh_T} {Q : Option Value → mh_T → Prop} (hu : u.1 = RX0) (hK : 1 < u.2.2.2.2) (hd : decode u.2.1 pc = .ok (.invokevirtual 78, 3)) (hst : (st.map fun v => v.category).sum ≤ 8) (hM : MC g yX8_hiddenAnswers uX8_hiddenAnswers [.ref 3] h (fun v h' => ME g u (pc + 3) lv (v.toList ++ st) h' Q)) : ME g u pc lv (.ref 3 :: st) h Q := m_callV (As := []) (n := 0) (ci := 8) (k := 3) (q := (RX8, TX8, 8)) hd (by rw [hu]; exact lk_X0_78) tw_64 tw_65 rfl rfl (by decide) (by decide) rfl hK hst hM
set_option maxRecDepth 100000 in
theorem lk_X0_82 : mLk RX0 82 yX8_missed uX8_missed 1 := ⟨tw_66, tw_285, tw_46, by decide +kernel, Nat.le_of_ble_eq_true rfl⟩
set_option maxRecDepth 100000 in
theorem cl_X0_82 {g : gT} {u : uT} {pc : Nat} {lv st : List Value} {h : mh_T} {Q : Option Value → mh_T → Prop} {a1 : Value} (hu : u.1 = RX0) (hK : 2 < u.2.2.2.2) (hd : decode u.2.1 pc = .ok (.invokevirtual 82, 3)) (hst : (st.map fun v => v.category).sum ≤ 8) (hM : MC g yX8_missed uX8_missed [.ref 3, a1] h (fun v h' => ME g u (pc + 3) lv (v.toList ++ st) h' Q)) : ME g u pc lv (a1 :: .ref 3 :: st) h Q := m_callV (As := [a1]) (n := 1) (ci := 8) (k := 3) (q := (RX8, TX8, 8)) hd (by rw [hu]; exact lk_X0_82) tw_68 tw_69 rfl rfl (by decide) (by decide) rfl hK hst hM
set_option maxRecDepth 100000 in
theorem gf_X0_89 {g : gT} {u : uT} {pc : Nat} {lv st : List Value} {h : mh_T} {Q : Option Value → mh_T → Prop} (hu : u.1 = RX0) (hd : decode u.2.1 pc = .ok (.getfield 89, 3)) (kk : ME g u (pc + 3) lv (.ref 26 :: st) h Q) : ME g u pc lv (.ref 3 :: st) h Q := m_getR (k' := 26) (ci := 8) (k := 3) (j := 6) (q := (RX8, TX8, 8)) (ref := "NotAtOnce$Table") hd rfl (by decide) (by decide) rfl rfl tinX8 tgX8 (by rw [hu]; exact tw_286) rfl rfl rfl (by decide) kk
set_option maxRecDepth 100000 in
theorem gf_X0_86 {g : gT} {u : uT} {pc : Nat} {lv st : List Value} {h : mh_T} {Q : Option Value → mh_T → Prop} (hu : u.1 = RX0) (hd : decode u.2.1 pc = .ok (.getfield 86, 3)) (kk : ME g u (pc + 3) lv (.int (mI h 6 5) :: st) h Q) : ME g u pc lv (.ref 6 :: st) h Q := m_getI (ci := 0) (k := 6) (j := 5) (q := (RX0, TX0, 9)) (ref := "NotAtOnce$Blend") hd rfl (by decide) (by decide) rfl rfl tinX0 tgX0 (by rw [hu]; exact tw_287) rfl rfl kk
set_option maxRecDepth 100000 in
theorem gf_X0_16 {g : gT} {u : uT} {pc : Nat} {lv st : List Value} {h : mh_T} {Q : Option Value → mh_T → Prop} (hu : u.1 = RX0) (hd : decode u.2.1 pc = .ok (.getfield 16, 3)) (kk : ME g u (pc + 3) lv (.ref 29 :: st) h Q) : ME g u pc lv (.ref 6 :: st) h Q := m_getR (k' := 29) (ci := 0) (k := 6) (j := 3) (q := (RX0, TX0, 9)) (ref := "NotAtOnce$Blend") hd rfl (by decide) (by decide) rfl rfl tinX0 tgX0 (by rw [hu]; exact tw_288) rfl rfl rfl (by decide) kk
set_option maxRecDepth 100000 in
theorem pf_X0_86 {g : gT} {u : uT} {pc : Nat} {lv st : List Value} {h : mh_T} {Q : Option Value → mh_T → Prop} {v : Int32} (hu : u.1 = RX0) (hd : decode u.2.1 pc = .ok (.putfield 86, 3)) (kk : ME g u (pc + 3) lv st (wI h 6 5 v) Q) : ME g u pc lv (.int v :: .ref 6 :: st) h Q := m_putI (ty := .int) (ci := 0) (k := 6) (j := 5) (q := (RX0, TX0, 9)) (ref := "NotAtOnce$Blend") hd rfl (by decide) (by decide) rfl rfl tinX0 tgX0 (by rw [hu]; exact tw_287) rfl tyX0 tyX0_ok nmX0 rfl (by decide +kernel) rfl rfl rfl kk
set_option maxRecDepth 100000 in
theorem lk_X0_92 : mLk RX0 92 yX8_cellOf uX8_cellOf 2 := ⟨tw_58, tw_289, tw_46, by decide +kernel, Nat.le_of_ble_eq_true rfl⟩
set_option maxRecDepth 100000 in
theorem cl_X0_92 {g : gT} {u : uT} {pc : Nat} {lv st : List Value} {h : mh_T} {Q : Option Value → mh_T → Prop} {a1 a2 : Value} (hu : u.1 = RX0) (hK : 1 < u.2.2.2.2) (hd : decode u.2.1 pc = .ok (.invokevirtual 92, 3)) (hst : (st.map fun v => v.category).sum ≤ 8) (hM : MC g yX8_cellOf uX8_cellOf [.ref 3, a1, a2] h (fun v h' => ME g u (pc + 3) lv (v.toList ++ st) h' Q)) : ME g u pc lv (a2 :: a1 :: .ref 3 :: st) h Q := m_callV (As := [a1, a2]) (n := 2) (ci := 8) (k := 3) (q := (RX8, TX8, 8)) hd (by rw [hu]; exact lk_X0_92) tw_60 tw_61 rfl rfl (by decide) (by decide) rfl hK hst hM
set_option maxRecDepth 100000 in
theorem lk_X0_96 : mLk RX0 96 yX0_isMeant uX0_isMeant 3 := ⟨tw_290, tw_291, tw_257, by decide +kernel, Nat.le_of_ble_eq_true rfl⟩
set_option maxRecDepth 100000 in
theorem cl_X0_96 {g : gT} {u : uT} {pc : Nat} {lv st : List Value} {h : mh_T} {Q : Option Value → mh_T → Prop} {a1 a2 a3 : Value} (hu : u.1 = RX0) (hK : 1 < u.2.2.2.2) (hd : decode u.2.1 pc = .ok (.invokestatic 96, 3)) (hst : (st.map fun v => v.category).sum ≤ 8) (hM : MC g yX0_isMeant uX0_isMeant [a1, a2, a3] h (fun v h' => ME g u (pc + 3) lv (v.toList ++ st) h' Q)) : ME g u pc lv (a3 :: a2 :: a1 :: st) h Q := m_callS (As := [a1, a2, a3]) (n := 3) hd (by rw [hu]; exact lk_X0_96) tw_292 rfl hK hst hM
set_option maxRecDepth 100000 in
theorem lk_X0_101 : mLk RX0 101 yX0_entering uX0_entering 1 := ⟨tw_294, tw_295, tw_257, by decide +kernel, Nat.le_of_ble_eq_true rfl⟩
set_option maxRecDepth 100000 in
theorem cl_X0_101 {g : gT} {u : uT} {pc : Nat} {lv st : List Value} {h : mh_T} {Q : Option Value → mh_T → Prop} {a1 : Value} (hu : u.1 = RX0) (hK : 1 < u.2.2.2.2) (hd : decode u.2.1 pc = .ok (.invokevirtual 101, 3)) (hst : (st.map fun v => v.category).sum ≤ 8) (hM : MC g yX0_entering uX0_entering [.ref 6, a1] h (fun v h' => ME g u (pc + 3) lv (v.toList ++ st) h' Q)) : ME g u pc lv (a1 :: .ref 6 :: st) h Q := m_callV (As := [a1]) (n := 1) (ci := 0) (k := 6) (q := (RX0, TX0, 9)) hd (by rw [hu]; exact lk_X0_101) tw_296 tw_297 rfl rfl (by decide) (by decide) rfl hK hst hM
set_option maxRecDepth 100000 in
theorem lk_X0_104 : mLk RX0 104 yX0_leaving uX0_leaving 1 := ⟨tw_298, tw_299, tw_257, by decide +kernel, Nat.le_of_ble_eq_true rfl⟩
set_option maxRecDepth 100000 in
theorem cl_X0_104 {g : gT} {u : uT} {pc : Nat} {lv st : List Value} {h : mh_T} {Q : Option Value → mh_T → Prop} {a1 : Value} (hu : u.1 = RX0) (hK : 2 < u.2.2.2.2) (hd : decode u.2.1 pc = .ok (.invokevirtual 104, 3)) (hst : (st.map fun v => v.category).sum ≤ 8) (hM : MC g yX0_leaving uX0_leaving [.ref 6, a1] h (fun v h' => ME g u (pc + 3) lv (v.toList ++ st) h' Q)) : ME g u pc lv (a1 :: .ref 6 :: st) h Q := m_callV (As := [a1]) (n := 1) (ci := 0) (k := 6) (q := (RX0, TX0, 9)) hd (by rw [hu]; exact lk_X0_104) tw_300 tw_301 rfl rfl (by decide) (by decide) rfl hK hst hM
set_option maxRecDepth 100000 in
theorem lk_X0_107 : mLk RX0 107 yX0_pivot uX0_pivot 3 := ⟨tw_302, tw_303, tw_257, by decide +kernel, Nat.le_of_ble_eq_true rfl⟩
set_option maxRecDepth 100000 in
theorem cl_X0_107 {g : gT} {u : uT} {pc : Nat} {lv st : List Value} {h : mh_T} {Q : Option Value → mh_T → Prop} {a1 a2 a3 : Value} (hu : u.1 = RX0) (hK : 2 < u.2.2.2.2) (hd : decode u.2.1 pc = .ok (.invokevirtual 107, 3)) (hst : (st.map fun v => v.category).sum ≤ 8) (hM : MC g yX0_pivot uX0_pivot [.ref 6, a1, a2, a3] h (fun v h' => ME g u (pc + 3) lv (v.toList ++ st) h' Q)) : ME g u pc lv (a3 :: a2 :: a1 :: .ref 6 :: st) h Q := m_callV (As := [a1, a2, a3]) (n := 3) (ci := 0) (k := 6) (q := (RX0, TX0, 9)) hd (by rw [hu]; exact lk_X0_107) tw_304 tw_305 rfl rfl (by decide) (by decide) rfl hK hst hM
set_option maxRecDepth 100000 in
theorem lk_X0_110 : mLk RX0 110 yX0_comesFirst uX0_comesFirst 3 := ⟨tw_306, tw_307, tw_257, by decide +kernel, Nat.le_of_ble_eq_true rfl⟩
set_option maxRecDepth 100000 in
theorem cl_X0_110 {g : gT} {u : uT} {pc : Nat} {lv st : List Value} {h : mh_T} {Q : Option Value → mh_T → Prop} {a1 a2 a3 : Value} (hu : u.1 = RX0) (hK : 1 < u.2.2.2.2) (hd : decode u.2.1 pc = .ok (.invokevirtual 110, 3)) (hst : (st.map fun v => v.category).sum ≤ 8) (hM : MC g yX0_comesFirst uX0_comesFirst [.ref 6, a1, a2, a3] h (fun v h' => ME g u (pc + 3) lv (v.toList ++ st) h' Q)) : ME g u pc lv (a3 :: a2 :: a1 :: .ref 6 :: st) h Q := m_callV (As := [a1, a2, a3]) (n := 3) (ci := 0) (k := 6) (q := (RX0, TX0, 9)) hd (by rw [hu]; exact lk_X0_110) tw_308 tw_309 rfl rfl (by decide) (by decide) rfl hK hst hM
set_option maxRecDepth 100000 in
theorem lk_X0_113 : mLk RX0 113 yX0_clearFrom uX0_clearFrom 3 := ⟨tw_310, tw_311, tw_257, by decide +kernel, Nat.le_of_ble_eq_true rfl⟩
set_option maxRecDepth 100000 in
theorem cl_X0_113 {g : gT} {u : uT} {pc : Nat} {lv st : List Value} {h : mh_T} {Q : Option Value → mh_T → Prop} {a1 a2 a3 : Value} (hu : u.1 = RX0) (hK : 1 < u.2.2.2.2) (hd : decode u.2.1 pc = .ok (.invokevirtual 113, 3)) (hst : (st.map fun v => v.category).sum ≤ 8) (hM : MC g yX0_clearFrom uX0_clearFrom [.ref 6, a1, a2, a3] h (fun v h' => ME g u (pc + 3) lv (v.toList ++ st) h' Q)) : ME g u pc lv (a3 :: a2 :: a1 :: .ref 6 :: st) h Q := m_callV (As := [a1, a2, a3]) (n := 3) (ci := 0) (k := 6) (q := (RX0, TX0, 9)) hd (by rw [hu]; exact lk_X0_113) tw_312 tw_313 rfl rfl (by decide) (by decide) rfl hK hst hM
set_option maxRecDepth 100000 in
theorem gf_X6_12 {g : gT} {u : uT} {pc : Nat} {lv st : List Value} {h : mh_T} {Q : Option Value → mh_T → Prop} (hu : u.1 = RX6) (hd : decode u.2.1 pc = .ok (.getfield 12, 3)) (kk : ME g u (pc + 3) lv (.ref 2 :: st) h Q) : ME g u pc lv (.ref 1 :: st) h Q := m_getR (k' := 2) (ci := 6) (k := 1) (j := 0) (q := (RX6, TX6, 12)) (ref := "NotAtOnce$Reader") hd rfl (by decide) (by decide) rfl rfl tinX6 tgX6 (by rw [hu]; exact tw_314) rfl rfl rfl (by decide) kk
set_option maxRecDepth 100000 in
theorem gf_X6_25 {g : gT} {u : uT} {pc : Nat} {lv st : List Value} {h : mh_T} {Q : Option Value → mh_T → Prop} (hu : u.1 = RX6) (hd : decode u.2.1 pc = .ok (.getfield 25, 3)) (kk : ME g u (pc + 3) lv (.ref 12 :: st) h Q) : ME g u pc lv (.ref 1 :: st) h Q := m_getR (k' := 12) (ci := 6) (k := 1) (j := 3) (q := (RX6, TX6, 12)) (ref := "NotAtOnce$Reader") hd rfl (by decide) (by decide) rfl rfl tinX6 tgX6 (by rw [hu]; exact tw_315) rfl rfl rfl (by decide) kk
set_option maxRecDepth 100000 in
theorem gf_X6_45 {g : gT} {u : uT} {pc : Nat} {lv st : List Value} {h : mh_T} {Q : Option Value → mh_T → Prop} (hu : u.1 = RX6) (hd : decode u.2.1 pc = .ok (.getfield 45, 3)) (kk : ME g u (pc + 3) lv (.int (mI h 1 6) :: st) h Q) : ME g u pc lv (.ref 1 :: st) h Q := m_getI (ci := 6) (k := 1) (j := 6) (q := (RX6, TX6, 12)) (ref := "NotAtOnce$Reader") hd rfl (by decide) (by decide) rfl rfl tinX6 tgX6 (by rw [hu]; exact tw_316) rfl rfl kk
set_option maxRecDepth 100000 in
theorem lk_X6_29 : mLk RX6 29 yX1_clear uX1_clear 0 := ⟨tw_317, tw_318, tw_319, by decide +kernel, Nat.le_of_ble_eq_true rfl⟩
set_option maxRecDepth 100000 in
theorem cl_X6_29 {g : gT} {u : uT} {pc : Nat} {lv st : List Value} {h : mh_T} {Q : Option Value → mh_T → Prop} (hu : u.1 = RX6) (hK : 1 < u.2.2.2.2) (hd : decode u.2.1 pc = .ok (.invokevirtual 29, 3)) (hst : (st.map fun v => v.category).sum ≤ 8) (hM : MC g yX1_clear uX1_clear [.ref 2] h (fun v h' => ME g u (pc + 3) lv (v.toList ++ st) h' Q)) : ME g u pc lv (.ref 2 :: st) h Q := m_callV (As := []) (n := 0) (ci := 1) (k := 2) (q := (RX1, TX1, 16)) hd (by rw [hu]; exact lk_X6_29) tw_320 tw_321 rfl rfl (by decide) (by decide) rfl hK hst hM
set_option maxRecDepth 100000 in
theorem pf_X6_32 {g : gT} {u : uT} {pc : Nat} {lv st : List Value} {h : mh_T} {Q : Option Value → mh_T → Prop} {v : Int32} (hu : u.1 = RX6) (hd : decode u.2.1 pc = .ok (.putfield 32, 3)) (kk : ME g u (pc + 3) lv st (wI h 1 1 v) Q) : ME g u pc lv (.int v :: .ref 1 :: st) h Q := m_putI (ty := .int) (ci := 6) (k := 1) (j := 1) (q := (RX6, TX6, 12)) (ref := "NotAtOnce$Reader") hd rfl (by decide) (by decide) rfl rfl tinX6 tgX6 (by rw [hu]; exact tw_322) rfl tyX6 tyX6_ok nmX6 rfl (by decide +kernel) rfl rfl rfl kk
set_option maxRecDepth 100000 in
theorem pf_X6_36 {g : gT} {u : uT} {pc : Nat} {lv st : List Value} {h : mh_T} {Q : Option Value → mh_T → Prop} {v : Int32} (hu : u.1 = RX6) (hd : decode u.2.1 pc = .ok (.putfield 36, 3)) (kk : ME g u (pc + 3) lv st (wI h 1 2 v) Q) : ME g u pc lv (.int v :: .ref 1 :: st) h Q := m_putI (ty := .int) (ci := 6) (k := 1) (j := 2) (q := (RX6, TX6, 12)) (ref := "NotAtOnce$Reader") hd rfl (by decide) (by decide) rfl rfl tinX6 tgX6 (by rw [hu]; exact tw_323) rfl tyX6 tyX6_ok nmX6 rfl (by decide +kernel) rfl rfl rfl kk
set_option maxRecDepth 100000 in
theorem pf_X6_45 {g : gT} {u : uT} {pc : Nat} {lv st : List Value} {h : mh_T} {Q : Option Value → mh_T → Prop} {v : Int32} (hu : u.1 = RX6) (hd : decode u.2.1 pc = .ok (.putfield 45, 3)) (kk : ME g u (pc + 3) lv st (wI h 1 6 v) Q) : ME g u pc lv (.int v :: .ref 1 :: st) h Q := m_putI (ty := .int) (ci := 6) (k := 1) (j := 6) (q := (RX6, TX6, 12)) (ref := "NotAtOnce$Reader") hd rfl (by decide) (by decide) rfl rfl tinX6 tgX6 (by rw [hu]; exact tw_316) rfl tyX6 tyX6_ok nmX6 rfl (by decide +kernel) rfl rfl rfl kk
set_option maxRecDepth 100000 in
theorem pf_X6_48 {g : gT} {u : uT} {pc : Nat} {lv st : List Value} {h : mh_T} {Q : Option Value → mh_T → Prop} {v : Int32} (hu : u.1 = RX6) (hd : decode u.2.1 pc = .ok (.putfield 48, 3)) (kk : ME g u (pc + 3) lv st (wI h 1 7 v) Q) : ME g u pc lv (.int v :: .ref 1 :: st) h Q := m_putI (ty := .int) (ci := 6) (k := 1) (j := 7) (q := (RX6, TX6, 12)) (ref := "NotAtOnce$Reader") hd rfl (by decide) (by decide) rfl rfl tinX6 tgX6 (by rw [hu]; exact tw_325) rfl tyX6 tyX6_ok nmX6 rfl (by decide +kernel) rfl rfl rfl kk
set_option maxRecDepth 100000 in
theorem lk_X6_51 : mLk RX6 51 yX6_next uX6_next 0 := ⟨tw_326, tw_327, tw_328, by decide +kernel, Nat.le_of_ble_eq_true rfl⟩
set_option maxRecDepth 100000 in
theorem cl_X6_51 {g : gT} {u : uT} {pc : Nat} {lv st : List Value} {h : mh_T} {Q : Option Value → mh_T → Prop} (hu : u.1 = RX6) (hK : 2 < u.2.2.2.2) (hd : decode u.2.1 pc = .ok (.invokevirtual 51, 3)) (hst : (st.map fun v => v.category).sum ≤ 8) (hM : MC g yX6_next uX6_next [.ref 1] h (fun v h' => ME g u (pc + 3) lv (v.toList ++ st) h' Q)) : ME g u pc lv (.ref 1 :: st) h Q := m_callV (As := []) (n := 0) (ci := 6) (k := 1) (q := (RX6, TX6, 12)) hd (by rw [hu]; exact lk_X6_51) tw_329 tw_330 rfl rfl (by decide) (by decide) rfl hK hst hM
set_option maxRecDepth 100000 in
theorem lk_X6_54 : mLk RX6 54 yX6_readLine uX6_readLine 0 := ⟨tw_331, tw_332, tw_328, by decide +kernel, Nat.le_of_ble_eq_true rfl⟩
set_option maxRecDepth 100000 in
theorem cl_X6_54 {g : gT} {u : uT} {pc : Nat} {lv st : List Value} {h : mh_T} {Q : Option Value → mh_T → Prop} (hu : u.1 = RX6) (hK : 9 < u.2.2.2.2) (hd : decode u.2.1 pc = .ok (.invokevirtual 54, 3)) (hst : (st.map fun v => v.category).sum ≤ 8) (hM : MC g yX6_readLine uX6_readLine [.ref 1] h (fun v h' => ME g u (pc + 3) lv (v.toList ++ st) h' Q)) : ME g u pc lv (.ref 1 :: st) h Q := m_callV (As := []) (n := 0) (ci := 6) (k := 1) (q := (RX6, TX6, 12)) hd (by rw [hu]; exact lk_X6_54) tw_333 tw_334 rfl rfl (by decide) (by decide) rfl hK hst hM
set_option maxRecDepth 100000 in
theorem lk_X6_58 : mLk RX6 58 yX6_goesOn uX6_goesOn 0 := ⟨tw_335, tw_336, tw_328, by decide +kernel, Nat.le_of_ble_eq_true rfl⟩
set_option maxRecDepth 100000 in
theorem cl_X6_58 {g : gT} {u : uT} {pc : Nat} {lv st : List Value} {h : mh_T} {Q : Option Value → mh_T → Prop} (hu : u.1 = RX6) (hK : 4 < u.2.2.2.2) (hd : decode u.2.1 pc = .ok (.invokevirtual 58, 3)) (hst : (st.map fun v => v.category).sum ≤ 8) (hM : MC g yX6_goesOn uX6_goesOn [.ref 1] h (fun v h' => ME g u (pc + 3) lv (v.toList ++ st) h' Q)) : ME g u pc lv (.ref 1 :: st) h Q := m_callV (As := []) (n := 0) (ci := 6) (k := 1) (q := (RX6, TX6, 12)) hd (by rw [hu]; exact lk_X6_58) tw_337 tw_338 rfl rfl (by decide) (by decide) rfl hK hst hM
set_option maxRecDepth 100000 in
theorem gf_X6_61 {g : gT} {u : uT} {pc : Nat} {lv st : List Value} {h : mh_T} {Q : Option Value → mh_T → Prop} (hu : u.1 = RX6) (hd : decode u.2.1 pc = .ok (.getfield 61, 3)) (kk : ME g u (pc + 3) lv (.int (mI h 1 8) :: st) h Q) : ME g u pc lv (.ref 1 :: st) h Q := m_getI (ci := 6) (k := 1) (j := 8) (q := (RX6, TX6, 12)) (ref := "NotAtOnce$Reader") hd rfl (by decide) (by decide) rfl rfl tinX6 tgX6 (by rw [hu]; exact tw_339) rfl rfl kk
set_option maxRecDepth 100000 in
theorem gf_X6_64 {g : gT} {u : uT} {pc : Nat} {lv st : List Value} {h : mh_T} {Q : Option Value → mh_T → Prop} (hu : u.1 = RX6) (hd : decode u.2.1 pc = .ok (.getfield 64, 3)) (kk : ME g u (pc + 3) lv (.int (mI h 2 0) :: st) h Q) : ME g u pc lv (.ref 2 :: st) h Q := m_getI (ci := 1) (k := 2) (j := 0) (q := (RX1, TX1, 16)) (ref := "NotAtOnce$Draft") hd rfl (by decide) (by decide) rfl rfl tinX1 tgX1 (by rw [hu]; exact tw_340) rfl rfl kk
set_option maxRecDepth 100000 in
theorem gf_X6_67 {g : gT} {u : uT} {pc : Nat} {lv st : List Value} {h : mh_T} {Q : Option Value → mh_T → Prop} (hu : u.1 = RX6) (hd : decode u.2.1 pc = .ok (.getfield 67, 3)) (kk : ME g u (pc + 3) lv (.int (mI h 2 1) :: st) h Q) : ME g u pc lv (.ref 2 :: st) h Q := m_getI (ci := 1) (k := 2) (j := 1) (q := (RX1, TX1, 16)) (ref := "NotAtOnce$Draft") hd rfl (by decide) (by decide) rfl rfl tinX1 tgX1 (by rw [hu]; exact tw_341) rfl rfl kk
set_option maxRecDepth 100000 in
theorem lk_X6_74 : mLk RX6 74 yX6_pass uX6_pass 1 := ⟨tw_342, tw_343, tw_328, by decide +kernel, Nat.le_of_ble_eq_true rfl⟩
set_option maxRecDepth 100000 in
theorem cl_X6_74 {g : gT} {u : uT} {pc : Nat} {lv st : List Value} {h : mh_T} {Q : Option Value → mh_T → Prop} {a1 : Value} (hu : u.1 = RX6) (hK : 3 < u.2.2.2.2) (hd : decode u.2.1 pc = .ok (.invokevirtual 74, 3)) (hst : (st.map fun v => v.category).sum ≤ 8) (hM : MC g yX6_pass uX6_pass [.ref 1, a1] h (fun v h' => ME g u (pc + 3) lv (v.toList ++ st) h' Q)) : ME g u pc lv (a1 :: .ref 1 :: st) h Q := m_callV (As := [a1]) (n := 1) (ci := 6) (k := 1) (q := (RX6, TX6, 12)) hd (by rw [hu]; exact lk_X6_74) tw_344 tw_345 rfl rfl (by decide) (by decide) rfl hK hst hM
set_option maxRecDepth 100000 in
theorem lk_X6_70 : mLk RX6 70 yX6_refuse uX6_refuse 1 := ⟨tw_346, tw_347, tw_328, by decide +kernel, Nat.le_of_ble_eq_true rfl⟩
set_option maxRecDepth 100000 in
theorem cl_X6_70 {g : gT} {u : uT} {pc : Nat} {lv st : List Value} {h : mh_T} {Q : Option Value → mh_T → Prop} {a1 : Value} (hu : u.1 = RX6) (hK : 1 < u.2.2.2.2) (hd : decode u.2.1 pc = .ok (.invokevirtual 70, 3)) (hst : (st.map fun v => v.category).sum ≤ 8) (hM : MC g yX6_refuse uX6_refuse [.ref 1, a1] h (fun v h' => ME g u (pc + 3) lv (v.toList ++ st) h' Q)) : ME g u pc lv (a1 :: .ref 1 :: st) h Q := m_callV (As := [a1]) (n := 1) (ci := 6) (k := 1) (q := (RX6, TX6, 12)) hd (by rw [hu]; exact lk_X6_70) tw_348 tw_349 rfl rfl (by decide) (by decide) rfl hK hst hM
set_option maxRecDepth 100000 in
theorem gf_X6_18 {g : gT} {u : uT} {pc : Nat} {lv st : List Value} {h : mh_T} {Q : Option Value → mh_T → Prop} (hu : u.1 = RX6) (hd : decode u.2.1 pc = .ok (.getfield 18, 3)) (kk : ME g u (pc + 3) lv (.ref 13 :: st) h Q) : ME g u pc lv (.ref 1 :: st) h Q := m_getR (k' := 13) (ci := 6) (k := 1) (j := 4) (q := (RX6, TX6, 12)) (ref := "NotAtOnce$Reader") hd rfl (by decide) (by decide) rfl rfl tinX6 tgX6 (by rw [hu]; exact tw_350) rfl rfl rfl (by decide) kk
set_option maxRecDepth 100000 in
theorem gf_X6_22 {g : gT} {u : uT} {pc : Nat} {lv st : List Value} {h : mh_T} {Q : Option Value → mh_T → Prop} (hu : u.1 = RX6) (hd : decode u.2.1 pc = .ok (.getfield 22, 3)) (kk : ME g u (pc + 3) lv (.ref 14 :: st) h Q) : ME g u pc lv (.ref 1 :: st) h Q := m_getR (k' := 14) (ci := 6) (k := 1) (j := 5) (q := (RX6, TX6, 12)) (ref := "NotAtOnce$Reader") hd rfl (by decide) (by decide) rfl rfl tinX6 tgX6 (by rw [hu]; exact tw_351) rfl rfl rfl (by decide) kk
set_option maxRecDepth 100000 in
theorem lk_X6_78 : mLk RX6 78 yX6_says uX6_says 1 := ⟨tw_352, tw_353, tw_328, by decide +kernel, Nat.le_of_ble_eq_true rfl⟩
set_option maxRecDepth 100000 in
theorem cl_X6_78 {g : gT} {u : uT} {pc : Nat} {lv st : List Value} {h : mh_T} {Q : Option Value → mh_T → Prop} {a1 : Value} (hu : u.1 = RX6) (hK : 5 < u.2.2.2.2) (hd : decode u.2.1 pc = .ok (.invokevirtual 78, 3)) (hst : (st.map fun v => v.category).sum ≤ 8) (hM : MC g yX6_says uX6_says [.ref 1, a1] h (fun v h' => ME g u (pc + 3) lv (v.toList ++ st) h' Q)) : ME g u pc lv (a1 :: .ref 1 :: st) h Q := m_callV (As := [a1]) (n := 1) (ci := 6) (k := 1) (q := (RX6, TX6, 12)) hd (by rw [hu]; exact lk_X6_78) tw_354 tw_355 rfl rfl (by decide) (by decide) rfl hK hst hM
set_option maxRecDepth 100000 in
theorem lk_X6_110 : mLk RX6 110 yX6_readRun uX6_readRun 0 := ⟨tw_356, tw_357, tw_328, by decide +kernel, Nat.le_of_ble_eq_true rfl⟩
set_option maxRecDepth 100000 in
theorem cl_X6_110 {g : gT} {u : uT} {pc : Nat} {lv st : List Value} {h : mh_T} {Q : Option Value → mh_T → Prop} (hu : u.1 = RX6) (hK : 8 < u.2.2.2.2) (hd : decode u.2.1 pc = .ok (.invokevirtual 110, 3)) (hst : (st.map fun v => v.category).sum ≤ 8) (hM : MC g yX6_readRun uX6_readRun [.ref 1] h (fun v h' => ME g u (pc + 3) lv (v.toList ++ st) h' Q)) : ME g u pc lv (.ref 1 :: st) h Q := m_callV (As := []) (n := 0) (ci := 6) (k := 1) (q := (RX6, TX6, 12)) hd (by rw [hu]; exact lk_X6_110) tw_358 tw_359 rfl rfl (by decide) (by decide) rfl hK hst hM
set_option maxRecDepth 100000 in
theorem lk_X6_105 : mLk RX6 105 yX6_readRay uX6_readRay 0 := ⟨tw_360, tw_361, tw_328, by decide +kernel, Nat.le_of_ble_eq_true rfl⟩
set_option maxRecDepth 100000 in
theorem cl_X6_105 {g : gT} {u : uT} {pc : Nat} {lv st : List Value} {h : mh_T} {Q : Option Value → mh_T → Prop} (hu : u.1 = RX6) (hK : 4 < u.2.2.2.2) (hd : decode u.2.1 pc = .ok (.invokevirtual 105, 3)) (hst : (st.map fun v => v.category).sum ≤ 8) (hM : MC g yX6_readRay uX6_readRay [.ref 1] h (fun v h' => ME g u (pc + 3) lv (v.toList ++ st) h' Q)) : ME g u pc lv (.ref 1 :: st) h Q := m_callV (As := []) (n := 0) (ci := 6) (k := 1) (q := (RX6, TX6, 12)) hd (by rw [hu]; exact lk_X6_105) tw_362 tw_363 rfl rfl (by decide) (by decide) rfl hK hst hM
set_option maxRecDepth 100000 in
theorem lk_X6_100 : mLk RX6 100 yX6_readParity uX6_readParity 0 := ⟨tw_364, tw_365, tw_328, by decide +kernel, Nat.le_of_ble_eq_true rfl⟩
set_option maxRecDepth 100000 in
theorem cl_X6_100 {g : gT} {u : uT} {pc : Nat} {lv st : List Value} {h : mh_T} {Q : Option Value → mh_T → Prop} (hu : u.1 = RX6) (hK : 8 < u.2.2.2.2) (hd : decode u.2.1 pc = .ok (.invokevirtual 100, 3)) (hst : (st.map fun v => v.category).sum ≤ 8) (hM : MC g yX6_readParity uX6_readParity [.ref 1] h (fun v h' => ME g u (pc + 3) lv (v.toList ++ st) h' Q)) : ME g u pc lv (.ref 1 :: st) h Q := m_callV (As := []) (n := 0) (ci := 6) (k := 1) (q := (RX6, TX6, 12)) hd (by rw [hu]; exact lk_X6_100) tw_366 tw_367 rfl rfl (by decide) (by decide) rfl hK hst hM
set_option maxRecDepth 100000 in
theorem lk_X6_95 : mLk RX6 95 yX6_readSet uX6_readSet 0 := ⟨tw_368, tw_369, tw_328, by decide +kernel, Nat.le_of_ble_eq_true rfl⟩
set_option maxRecDepth 100000 in
theorem cl_X6_95 {g : gT} {u : uT} {pc : Nat} {lv st : List Value} {h : mh_T} {Q : Option Value → mh_T → Prop} (hu : u.1 = RX6) (hK : 8 < u.2.2.2.2) (hd : decode u.2.1 pc = .ok (.invokevirtual 95, 3)) (hst : (st.map fun v => v.category).sum ≤ 8) (hM : MC g yX6_readSet uX6_readSet [.ref 1] h (fun v h' => ME g u (pc + 3) lv (v.toList ++ st) h' Q)) : ME g u pc lv (.ref 1 :: st) h Q := m_callV (As := []) (n := 0) (ci := 6) (k := 1) (q := (RX6, TX6, 12)) hd (by rw [hu]; exact lk_X6_95) tw_370 tw_371 rfl rfl (by decide) (by decide) rfl hK hst hM
set_option maxRecDepth 100000 in
theorem lk_X6_87 : mLk RX6 87 yX6_readNames uX6_readNames 2 := ⟨tw_372, tw_373, tw_328, by decide +kernel, Nat.le_of_ble_eq_true rfl⟩
set_option maxRecDepth 100000 in
theorem cl_X6_87 {g : gT} {u : uT} {pc : Nat} {lv st : List Value} {h : mh_T} {Q : Option Value → mh_T → Prop} {a1 a2 : Value} (hu : u.1 = RX6) (hK : 8 < u.2.2.2.2) (hd : decode u.2.1 pc = .ok (.invokevirtual 87, 3)) (hst : (st.map fun v => v.category).sum ≤ 8) (hM : MC g yX6_readNames uX6_readNames [.ref 1, a1, a2] h (fun v h' => ME g u (pc + 3) lv (v.toList ++ st) h' Q)) : ME g u pc lv (a2 :: a1 :: .ref 1 :: st) h Q := m_callV (As := [a1, a2]) (n := 2) (ci := 6) (k := 1) (q := (RX6, TX6, 12)) hd (by rw [hu]; exact lk_X6_87) tw_374 tw_375 rfl rfl (by decide) (by decide) rfl hK hst hM
set_option maxRecDepth 100000 in
theorem lk_X6_82 : mLk RX6 82 yX6_readLaw uX6_readLaw 0 := ⟨tw_376, tw_377, tw_328, by decide +kernel, Nat.le_of_ble_eq_true rfl⟩
set_option maxRecDepth 100000 in
theorem cl_X6_82 {g : gT} {u : uT} {pc : Nat} {lv st : List Value} {h : mh_T} {Q : Option Value → mh_T → Prop} (hu : u.1 = RX6) (hK : 7 < u.2.2.2.2) (hd : decode u.2.1 pc = .ok (.invokevirtual 82, 3)) (hst : (st.map fun v => v.category).sum ≤ 8) (hM : MC g yX6_readLaw uX6_readLaw [.ref 1] h (fun v h' => ME g u (pc + 3) lv (v.toList ++ st) h' Q)) : ME g u pc lv (.ref 1 :: st) h Q := m_callV (As := []) (n := 0) (ci := 6) (k := 1) (q := (RX6, TX6, 12)) hd (by rw [hu]; exact lk_X6_82) tw_378 tw_379 rfl rfl (by decide) (by decide) rfl hK hst hM
set_option maxRecDepth 100000 in
theorem gf_X6_122 {g : gT} {u : uT} {pc : Nat} {lv st : List Value} {h : mh_T} {Q : Option Value → mh_T → Prop} (hu : u.1 = RX6) (hd : decode u.2.1 pc = .ok (.getfield 122, 3)) (kk : ME g u (pc + 3) lv (.int (mI h 1 11) :: st) h Q) : ME g u pc lv (.ref 1 :: st) h Q := m_getI (ci := 6) (k := 1) (j := 11) (q := (RX6, TX6, 12)) (ref := "NotAtOnce$Reader") hd rfl (by decide) (by decide) rfl rfl tinX6 tgX6 (by rw [hu]; exact tw_380) rfl rfl kk
set_option maxRecDepth 100000 in
theorem lk_X6_115 : mLk RX6 115 yX6_passWord uX6_passWord 1 := ⟨tw_381, tw_382, tw_328, by decide +kernel, Nat.le_of_ble_eq_true rfl⟩
set_option maxRecDepth 100000 in
theorem cl_X6_115 {g : gT} {u : uT} {pc : Nat} {lv st : List Value} {h : mh_T} {Q : Option Value → mh_T → Prop} {a1 : Value} (hu : u.1 = RX6) (hK : 6 < u.2.2.2.2) (hd : decode u.2.1 pc = .ok (.invokevirtual 115, 3)) (hst : (st.map fun v => v.category).sum ≤ 8) (hM : MC g yX6_passWord uX6_passWord [.ref 1, a1] h (fun v h' => ME g u (pc + 3) lv (v.toList ++ st) h' Q)) : ME g u pc lv (a1 :: .ref 1 :: st) h Q := m_callV (As := [a1]) (n := 1) (ci := 6) (k := 1) (q := (RX6, TX6, 12)) hd (by rw [hu]; exact lk_X6_115) tw_383 tw_384 rfl rfl (by decide) (by decide) rfl hK hst hM
set_option maxRecDepth 100000 in
theorem lk_X6_118 : mLk RX6 118 yX6_needWhole uX6_needWhole 2 := ⟨tw_385, tw_386, tw_328, by decide +kernel, Nat.le_of_ble_eq_true rfl⟩
set_option maxRecDepth 100000 in
theorem cl_X6_118 {g : gT} {u : uT} {pc : Nat} {lv st : List Value} {h : mh_T} {Q : Option Value → mh_T → Prop} {a1 a2 : Value} (hu : u.1 = RX6) (hK : 2 < u.2.2.2.2) (hd : decode u.2.1 pc = .ok (.invokevirtual 118, 3)) (hst : (st.map fun v => v.category).sum ≤ 8) (hM : MC g yX6_needWhole uX6_needWhole [.ref 1, a1, a2] h (fun v h' => ME g u (pc + 3) lv (v.toList ++ st) h' Q)) : ME g u pc lv (a2 :: a1 :: .ref 1 :: st) h Q := m_callV (As := [a1, a2]) (n := 2) (ci := 6) (k := 1) (q := (RX6, TX6, 12)) hd (by rw [hu]; exact lk_X6_118) tw_387 tw_388 rfl rfl (by decide) (by decide) rfl hK hst hM
set_option maxRecDepth 100000 in
theorem pf_X6_64 {g : gT} {u : uT} {pc : Nat} {lv st : List Value} {h : mh_T} {Q : Option Value → mh_T → Prop} {v : Int32} (hu : u.1 = RX6) (hd : decode u.2.1 pc = .ok (.putfield 64, 3)) (kk : ME g u (pc + 3) lv st (wI h 2 0 v) Q) : ME g u pc lv (.int v :: .ref 2 :: st) h Q := m_putI (ty := .int) (ci := 1) (k := 2) (j := 0) (q := (RX1, TX1, 16)) (ref := "NotAtOnce$Draft") hd rfl (by decide) (by decide) rfl rfl tinX1 tgX1 (by rw [hu]; exact tw_340) rfl tyX1 tyX1_ok nmX1 rfl (by decide +kernel) rfl rfl rfl kk
set_option maxRecDepth 100000 in
theorem gf_X6_131 {g : gT} {u : uT} {pc : Nat} {lv st : List Value} {h : mh_T} {Q : Option Value → mh_T → Prop} (hu : u.1 = RX6) (hd : decode u.2.1 pc = .ok (.getfield 131, 3)) (kk : ME g u (pc + 3) lv (.long (mL h 1 10) :: st) h Q) : ME g u pc lv (.ref 1 :: st) h Q := m_getL (ci := 6) (k := 1) (j := 10) (q := (RX6, TX6, 12)) (ref := "NotAtOnce$Reader") hd rfl (by decide) (by decide) rfl rfl tinX6 tgX6 (by rw [hu]; exact tw_389) rfl rfl kk
set_option maxRecDepth 100000 in
theorem gf_X6_128 {g : gT} {u : uT} {pc : Nat} {lv st : List Value} {h : mh_T} {Q : Option Value → mh_T → Prop} (hu : u.1 = RX6) (hd : decode u.2.1 pc = .ok (.getfield 128, 3)) (kk : ME g u (pc + 3) lv (.int (mI h 2 2) :: st) h Q) : ME g u pc lv (.ref 2 :: st) h Q := m_getI (ci := 1) (k := 2) (j := 2) (q := (RX1, TX1, 16)) (ref := "NotAtOnce$Draft") hd rfl (by decide) (by decide) rfl rfl tinX1 tgX1 (by rw [hu]; exact tw_390) rfl rfl kk
set_option maxRecDepth 100000 in
theorem lk_X6_125 : mLk RX6 125 yX6_needNewName uX6_needNewName 0 := ⟨tw_391, tw_392, tw_328, by decide +kernel, Nat.le_of_ble_eq_true rfl⟩
set_option maxRecDepth 100000 in
theorem cl_X6_125 {g : gT} {u : uT} {pc : Nat} {lv st : List Value} {h : mh_T} {Q : Option Value → mh_T → Prop} (hu : u.1 = RX6) (hK : 7 < u.2.2.2.2) (hd : decode u.2.1 pc = .ok (.invokevirtual 125, 3)) (hst : (st.map fun v => v.category).sum ≤ 8) (hM : MC g yX6_needNewName uX6_needNewName [.ref 1] h (fun v h' => ME g u (pc + 3) lv (v.toList ++ st) h' Q)) : ME g u pc lv (.ref 1 :: st) h Q := m_callV (As := []) (n := 0) (ci := 6) (k := 1) (q := (RX6, TX6, 12)) hd (by rw [hu]; exact lk_X6_125) tw_393 tw_394 rfl rfl (by decide) (by decide) rfl hK hst hM
set_option maxRecDepth 100000 in
theorem pf_X6_128 {g : gT} {u : uT} {pc : Nat} {lv st : List Value} {h : mh_T} {Q : Option Value → mh_T → Prop} {v : Int32} (hu : u.1 = RX6) (hd : decode u.2.1 pc = .ok (.putfield 128, 3)) (kk : ME g u (pc + 3) lv st (wI h 2 2 v) Q) : ME g u pc lv (.int v :: .ref 2 :: st) h Q := m_putI (ty := .int) (ci := 1) (k := 2) (j := 2) (q := (RX1, TX1, 16)) (ref := "NotAtOnce$Draft") hd rfl (by decide) (by decide) rfl rfl tinX1 tgX1 (by rw [hu]; exact tw_390) rfl tyX1 tyX1_ok nmX1 rfl (by decide +kernel) rfl rfl rfl kk
set_option maxRecDepth 100000 in
theorem pf_X6_67 {g : gT} {u : uT} {pc : Nat} {lv st : List Value} {h : mh_T} {Q : Option Value → mh_T → Prop} {v : Int32} (hu : u.1 = RX6) (hd : decode u.2.1 pc = .ok (.putfield 67, 3)) (kk : ME g u (pc + 3) lv st (wI h 2 1 v) Q) : ME g u pc lv (.int v :: .ref 2 :: st) h Q := m_putI (ty := .int) (ci := 1) (k := 2) (j := 1) (q := (RX1, TX1, 16)) (ref := "NotAtOnce$Draft") hd rfl (by decide) (by decide) rfl rfl tinX1 tgX1 (by rw [hu]; exact tw_341) rfl tyX1 tyX1_ok nmX1 rfl (by decide +kernel) rfl rfl rfl kk
set_option maxRecDepth 100000 in
theorem gf_X6_135 {g : gT} {u : uT} {pc : Nat} {lv st : List Value} {h : mh_T} {Q : Option Value → mh_T → Prop} (hu : u.1 = RX6) (hd : decode u.2.1 pc = .ok (.getfield 135, 3)) (kk : ME g u (pc + 3) lv (.int (mI h 2 3) :: st) h Q) : ME g u pc lv (.ref 2 :: st) h Q := m_getI (ci := 1) (k := 2) (j := 3) (q := (RX1, TX1, 16)) (ref := "NotAtOnce$Draft") hd rfl (by decide) (by decide) rfl rfl tinX1 tgX1 (by rw [hu]; exact tw_395) rfl rfl kk
set_option maxRecDepth 100000 in
theorem gf_X6_142 {g : gT} {u : uT} {pc : Nat} {lv st : List Value} {h : mh_T} {Q : Option Value → mh_T → Prop} (hu : u.1 = RX6) (hd : decode u.2.1 pc = .ok (.getfield 142, 3)) (kk : ME g u (pc + 3) lv (.ref 15 :: st) h Q) : ME g u pc lv (.ref 2 :: st) h Q := m_getR (k' := 15) (ci := 1) (k := 2) (j := 7) (q := (RX1, TX1, 16)) (ref := "NotAtOnce$Draft") hd rfl (by decide) (by decide) rfl rfl tinX1 tgX1 (by rw [hu]; exact tw_396) rfl rfl rfl (by decide) kk
set_option maxRecDepth 100000 in
theorem gf_X6_145 {g : gT} {u : uT} {pc : Nat} {lv st : List Value} {h : mh_T} {Q : Option Value → mh_T → Prop} (hu : u.1 = RX6) (hd : decode u.2.1 pc = .ok (.getfield 145, 3)) (kk : ME g u (pc + 3) lv (.ref 16 :: st) h Q) : ME g u pc lv (.ref 2 :: st) h Q := m_getR (k' := 16) (ci := 1) (k := 2) (j := 8) (q := (RX1, TX1, 16)) (ref := "NotAtOnce$Draft") hd rfl (by decide) (by decide) rfl rfl tinX1 tgX1 (by rw [hu]; exact tw_397) rfl rfl rfl (by decide) kk
set_option maxRecDepth 100000 in
theorem lk_X6_138 : mLk RX6 138 yX6_nameAmong uX6_nameAmong 2 := ⟨tw_398, tw_399, tw_328, by decide +kernel, Nat.le_of_ble_eq_true rfl⟩
set_option maxRecDepth 100000 in
theorem cl_X6_138 {g : gT} {u : uT} {pc : Nat} {lv st : List Value} {h : mh_T} {Q : Option Value → mh_T → Prop} {a1 a2 : Value} (hu : u.1 = RX6) (hK : 7 < u.2.2.2.2) (hd : decode u.2.1 pc = .ok (.invokevirtual 138, 3)) (hst : (st.map fun v => v.category).sum ≤ 8) (hM : MC g yX6_nameAmong uX6_nameAmong [.ref 1, a1, a2] h (fun v h' => ME g u (pc + 3) lv (v.toList ++ st) h' Q)) : ME g u pc lv (a2 :: a1 :: .ref 1 :: st) h Q := m_callV (As := [a1, a2]) (n := 2) (ci := 6) (k := 1) (q := (RX6, TX6, 12)) hd (by rw [hu]; exact lk_X6_138) tw_400 tw_401 rfl rfl (by decide) (by decide) rfl hK hst hM
set_option maxRecDepth 100000 in
theorem lk_X6_150 : mLk RX6 150 yX6_readTimes uX6_readTimes 1 := ⟨tw_402, tw_403, tw_328, by decide +kernel, Nat.le_of_ble_eq_true rfl⟩
set_option maxRecDepth 100000 in
theorem cl_X6_150 {g : gT} {u : uT} {pc : Nat} {lv st : List Value} {h : mh_T} {Q : Option Value → mh_T → Prop} {a1 : Value} (hu : u.1 = RX6) (hK : 4 < u.2.2.2.2) (hd : decode u.2.1 pc = .ok (.invokevirtual 150, 3)) (hst : (st.map fun v => v.category).sum ≤ 8) (hM : MC g yX6_readTimes uX6_readTimes [.ref 1, a1] h (fun v h' => ME g u (pc + 3) lv (v.toList ++ st) h' Q)) : ME g u pc lv (a1 :: .ref 1 :: st) h Q := m_callV (As := [a1]) (n := 1) (ci := 6) (k := 1) (q := (RX6, TX6, 12)) hd (by rw [hu]; exact lk_X6_150) tw_404 tw_405 rfl rfl (by decide) (by decide) rfl hK hst hM
set_option maxRecDepth 100000 in
theorem gf_X6_153 {g : gT} {u : uT} {pc : Nat} {lv st : List Value} {h : mh_T} {Q : Option Value → mh_T → Prop} (hu : u.1 = RX6) (hd : decode u.2.1 pc = .ok (.getfield 153, 3)) (kk : ME g u (pc + 3) lv (.ref 17 :: st) h Q) : ME g u pc lv (.ref 2 :: st) h Q := m_getR (k' := 17) (ci := 1) (k := 2) (j := 9) (q := (RX1, TX1, 16)) (ref := "NotAtOnce$Draft") hd rfl (by decide) (by decide) rfl rfl tinX1 tgX1 (by rw [hu]; exact tw_406) rfl rfl rfl (by decide) kk
set_option maxRecDepth 100000 in
theorem pf_X6_135 {g : gT} {u : uT} {pc : Nat} {lv st : List Value} {h : mh_T} {Q : Option Value → mh_T → Prop} {v : Int32} (hu : u.1 = RX6) (hd : decode u.2.1 pc = .ok (.putfield 135, 3)) (kk : ME g u (pc + 3) lv st (wI h 2 3 v) Q) : ME g u pc lv (.int v :: .ref 2 :: st) h Q := m_putI (ty := .int) (ci := 1) (k := 2) (j := 3) (q := (RX1, TX1, 16)) (ref := "NotAtOnce$Draft") hd rfl (by decide) (by decide) rfl rfl tinX1 tgX1 (by rw [hu]; exact tw_395) rfl tyX1 tyX1_ok nmX1 rfl (by decide +kernel) rfl rfl rfl kk
set_option maxRecDepth 100000 in
theorem gf_X6_156 {g : gT} {u : uT} {pc : Nat} {lv st : List Value} {h : mh_T} {Q : Option Value → mh_T → Prop} (hu : u.1 = RX6) (hd : decode u.2.1 pc = .ok (.getfield 156, 3)) (kk : ME g u (pc + 3) lv (.int (mI h 2 4) :: st) h Q) : ME g u pc lv (.ref 2 :: st) h Q := m_getI (ci := 1) (k := 2) (j := 4) (q := (RX1, TX1, 16)) (ref := "NotAtOnce$Draft") hd rfl (by decide) (by decide) rfl rfl tinX1 tgX1 (by rw [hu]; exact tw_407) rfl rfl kk
set_option maxRecDepth 100000 in
theorem gf_X6_165 {g : gT} {u : uT} {pc : Nat} {lv st : List Value} {h : mh_T} {Q : Option Value → mh_T → Prop} (hu : u.1 = RX6) (hd : decode u.2.1 pc = .ok (.getfield 165, 3)) (kk : ME g u (pc + 3) lv (.ref 18 :: st) h Q) : ME g u pc lv (.ref 2 :: st) h Q := m_getR (k' := 18) (ci := 1) (k := 2) (j := 10) (q := (RX1, TX1, 16)) (ref := "NotAtOnce$Draft") hd rfl (by decide) (by decide) rfl rfl tinX1 tgX1 (by rw [hu]; exact tw_408) rfl rfl rfl (by decide) kk
set_option maxRecDepth 100000 in
theorem gf_X6_168 {g : gT} {u : uT} {pc : Nat} {lv st : List Value} {h : mh_T} {Q : Option Value → mh_T → Prop} (hu : u.1 = RX6) (hd : decode u.2.1 pc = .ok (.getfield 168, 3)) (kk : ME g u (pc + 3) lv (.ref 19 :: st) h Q) : ME g u pc lv (.ref 2 :: st) h Q := m_getR (k' := 19) (ci := 1) (k := 2) (j := 11) (q := (RX1, TX1, 16)) (ref := "NotAtOnce$Draft") hd rfl (by decide) (by decide) rfl rfl tinX1 tgX1 (by rw [hu]; exact tw_409) rfl rfl rfl (by decide) kk
set_option maxRecDepth 100000 in
theorem pf_X6_156 {g : gT} {u : uT} {pc : Nat} {lv st : List Value} {h : mh_T} {Q : Option Value → mh_T → Prop} {v : Int32} (hu : u.1 = RX6) (hd : decode u.2.1 pc = .ok (.putfield 156, 3)) (kk : ME g u (pc + 3) lv st (wI h 2 4 v) Q) : ME g u pc lv (.int v :: .ref 2 :: st) h Q := m_putI (ty := .int) (ci := 1) (k := 2) (j := 4) (q := (RX1, TX1, 16)) (ref := "NotAtOnce$Draft") hd rfl (by decide) (by decide) rfl rfl tinX1 tgX1 (by rw [hu]; exact tw_407) rfl tyX1 tyX1_ok nmX1 rfl (by decide +kernel) rfl rfl rfl kk
set_option maxRecDepth 100000 in
theorem gf_X6_171 {g : gT} {u : uT} {pc : Nat} {lv st : List Value} {h : mh_T} {Q : Option Value → mh_T → Prop} (hu : u.1 = RX6) (hd : decode u.2.1 pc = .ok (.getfield 171, 3)) (kk : ME g u (pc + 3) lv (.int (mI h 2 5) :: st) h Q) : ME g u pc lv (.ref 2 :: st) h Q := m_getI (ci := 1) (k := 2) (j := 5) (q := (RX1, TX1, 16)) (ref := "NotAtOnce$Draft") hd rfl (by decide) (by decide) rfl rfl tinX1 tgX1 (by rw [hu]; exact tw_410) rfl rfl kk
set_option maxRecDepth 100000 in
theorem gf_X6_174 {g : gT} {u : uT} {pc : Nat} {lv st : List Value} {h : mh_T} {Q : Option Value → mh_T → Prop} (hu : u.1 = RX6) (hd : decode u.2.1 pc = .ok (.getfield 174, 3)) (kk : ME g u (pc + 3) lv (.ref 20 :: st) h Q) : ME g u pc lv (.ref 2 :: st) h Q := m_getR (k' := 20) (ci := 1) (k := 2) (j := 12) (q := (RX1, TX1, 16)) (ref := "NotAtOnce$Draft") hd rfl (by decide) (by decide) rfl rfl tinX1 tgX1 (by rw [hu]; exact tw_411) rfl rfl rfl (by decide) kk
set_option maxRecDepth 100000 in
theorem pf_X6_171 {g : gT} {u : uT} {pc : Nat} {lv st : List Value} {h : mh_T} {Q : Option Value → mh_T → Prop} {v : Int32} (hu : u.1 = RX6) (hd : decode u.2.1 pc = .ok (.putfield 171, 3)) (kk : ME g u (pc + 3) lv st (wI h 2 5 v) Q) : ME g u pc lv (.int v :: .ref 2 :: st) h Q := m_putI (ty := .int) (ci := 1) (k := 2) (j := 5) (q := (RX1, TX1, 16)) (ref := "NotAtOnce$Draft") hd rfl (by decide) (by decide) rfl rfl tinX1 tgX1 (by rw [hu]; exact tw_410) rfl tyX1 tyX1_ok nmX1 rfl (by decide +kernel) rfl rfl rfl kk
set_option maxRecDepth 100000 in
theorem gf_X6_177 {g : gT} {u : uT} {pc : Nat} {lv st : List Value} {h : mh_T} {Q : Option Value → mh_T → Prop} (hu : u.1 = RX6) (hd : decode u.2.1 pc = .ok (.getfield 177, 3)) (kk : ME g u (pc + 3) lv (.int (mI h 2 6) :: st) h Q) : ME g u pc lv (.ref 2 :: st) h Q := m_getI (ci := 1) (k := 2) (j := 6) (q := (RX1, TX1, 16)) (ref := "NotAtOnce$Draft") hd rfl (by decide) (by decide) rfl rfl tinX1 tgX1 (by rw [hu]; exact tw_412) rfl rfl kk
set_option maxRecDepth 100000 in
theorem gf_X6_180 {g : gT} {u : uT} {pc : Nat} {lv st : List Value} {h : mh_T} {Q : Option Value → mh_T → Prop} (hu : u.1 = RX6) (hd : decode u.2.1 pc = .ok (.getfield 180, 3)) (kk : ME g u (pc + 3) lv (.ref 22 :: st) h Q) : ME g u pc lv (.ref 2 :: st) h Q := m_getR (k' := 22) (ci := 1) (k := 2) (j := 14) (q := (RX1, TX1, 16)) (ref := "NotAtOnce$Draft") hd rfl (by decide) (by decide) rfl rfl tinX1 tgX1 (by rw [hu]; exact tw_413) rfl rfl rfl (by decide) kk
set_option maxRecDepth 100000 in
theorem gf_X6_183 {g : gT} {u : uT} {pc : Nat} {lv st : List Value} {h : mh_T} {Q : Option Value → mh_T → Prop} (hu : u.1 = RX6) (hd : decode u.2.1 pc = .ok (.getfield 183, 3)) (kk : ME g u (pc + 3) lv (.ref 23 :: st) h Q) : ME g u pc lv (.ref 2 :: st) h Q := m_getR (k' := 23) (ci := 1) (k := 2) (j := 15) (q := (RX1, TX1, 16)) (ref := "NotAtOnce$Draft") hd rfl (by decide) (by decide) rfl rfl tinX1 tgX1 (by rw [hu]; exact tw_414) rfl rfl rfl (by decide) kk
set_option maxRecDepth 100000 in
theorem gf_X6_186 {g : gT} {u : uT} {pc : Nat} {lv st : List Value} {h : mh_T} {Q : Option Value → mh_T → Prop} (hu : u.1 = RX6) (hd : decode u.2.1 pc = .ok (.getfield 186, 3)) (kk : ME g u (pc + 3) lv (.ref 21 :: st) h Q) : ME g u pc lv (.ref 2 :: st) h Q := m_getR (k' := 21) (ci := 1) (k := 2) (j := 13) (q := (RX1, TX1, 16)) (ref := "NotAtOnce$Draft") hd rfl (by decide) (by decide) rfl rfl tinX1 tgX1 (by rw [hu]; exact tw_415) rfl rfl rfl (by decide) kk
set_option maxRecDepth 100000 in
theorem pf_X6_177 {g : gT} {u : uT} {pc : Nat} {lv st : List Value} {h : mh_T} {Q : Option Value → mh_T → Prop} {v : Int32} (hu : u.1 = RX6) (hd : decode u.2.1 pc = .ok (.putfield 177, 3)) (kk : ME g u (pc + 3) lv st (wI h 2 6 v) Q) : ME g u pc lv (.int v :: .ref 2 :: st) h Q := m_putI (ty := .int) (ci := 1) (k := 2) (j := 6) (q := (RX1, TX1, 16)) (ref := "NotAtOnce$Draft") hd rfl (by decide) (by decide) rfl rfl tinX1 tgX1 (by rw [hu]; exact tw_412) rfl tyX1 tyX1_ok nmX1 rfl (by decide +kernel) rfl rfl rfl kk
set_option maxRecDepth 100000 in
theorem gf_X6_189 {g : gT} {u : uT} {pc : Nat} {lv st : List Value} {h : mh_T} {Q : Option Value → mh_T → Prop} (hu : u.1 = RX6) (hd : decode u.2.1 pc = .ok (.getfield 189, 3)) (kk : ME g u (pc + 3) lv (.int (mI h 1 9) :: st) h Q) : ME g u pc lv (.ref 1 :: st) h Q := m_getI (ci := 6) (k := 1) (j := 9) (q := (RX6, TX6, 12)) (ref := "NotAtOnce$Reader") hd rfl (by decide) (by decide) rfl rfl tinX6 tgX6 (by rw [hu]; exact tw_416) rfl rfl kk
set_option maxRecDepth 100000 in
theorem lk_X6_192 : mLk RX6 192 yX6_isName uX6_isName 0 := ⟨tw_417, tw_418, tw_328, by decide +kernel, Nat.le_of_ble_eq_true rfl⟩
set_option maxRecDepth 100000 in
theorem cl_X6_192 {g : gT} {u : uT} {pc : Nat} {lv st : List Value} {h : mh_T} {Q : Option Value → mh_T → Prop} (hu : u.1 = RX6) (hK : 6 < u.2.2.2.2) (hd : decode u.2.1 pc = .ok (.invokevirtual 192, 3)) (hst : (st.map fun v => v.category).sum ≤ 8) (hM : MC g yX6_isName uX6_isName [.ref 1] h (fun v h' => ME g u (pc + 3) lv (v.toList ++ st) h' Q)) : ME g u pc lv (.ref 1 :: st) h Q := m_callV (As := []) (n := 0) (ci := 6) (k := 1) (q := (RX6, TX6, 12)) hd (by rw [hu]; exact lk_X6_192) tw_419 tw_420 rfl rfl (by decide) (by decide) rfl hK hst hM
set_option maxRecDepth 100000 in
theorem lk_X6_195 : mLk RX6 195 yX6_indexOf uX6_indexOf 2 := ⟨tw_421, tw_422, tw_328, by decide +kernel, Nat.le_of_ble_eq_true rfl⟩
set_option maxRecDepth 100000 in
theorem cl_X6_195 {g : gT} {u : uT} {pc : Nat} {lv st : List Value} {h : mh_T} {Q : Option Value → mh_T → Prop} {a1 a2 : Value} (hu : u.1 = RX6) (hK : 1 < u.2.2.2.2) (hd : decode u.2.1 pc = .ok (.invokevirtual 195, 3)) (hst : (st.map fun v => v.category).sum ≤ 8) (hM : MC g yX6_indexOf uX6_indexOf [.ref 1, a1, a2] h (fun v h' => ME g u (pc + 3) lv (v.toList ++ st) h' Q)) : ME g u pc lv (a2 :: a1 :: .ref 1 :: st) h Q := m_callV (As := [a1, a2]) (n := 2) (ci := 6) (k := 1) (q := (RX6, TX6, 12)) hd (by rw [hu]; exact lk_X6_195) tw_423 tw_424 rfl rfl (by decide) (by decide) rfl hK hst hM
set_option maxRecDepth 100000 in
theorem gf_X6_48 {g : gT} {u : uT} {pc : Nat} {lv st : List Value} {h : mh_T} {Q : Option Value → mh_T → Prop} (hu : u.1 = RX6) (hd : decode u.2.1 pc = .ok (.getfield 48, 3)) (kk : ME g u (pc + 3) lv (.int (mI h 1 7) :: st) h Q) : ME g u pc lv (.ref 1 :: st) h Q := m_getI (ci := 6) (k := 1) (j := 7) (q := (RX6, TX6, 12)) (ref := "NotAtOnce$Reader") hd rfl (by decide) (by decide) rfl rfl tinX6 tgX6 (by rw [hu]; exact tw_325) rfl rfl kk
set_option maxRecDepth 100000 in
theorem lk_X6_198 : mLk RX6 198 yJ0_length_8abf5 uJ0_length_8abf5 0 := ⟨tw_425, tw_426, tw_6, by decide +kernel, Nat.le_of_ble_eq_true rfl⟩
set_option maxRecDepth 100000 in
theorem cl_X6_198 {g : gT} {u : uT} {pc : Nat} {lv st : List Value} {h : mh_T} {Q : Option Value → mh_T → Prop} {i : Nat} (hu : u.1 = RX6) (hK : 2 < u.2.2.2.2) (hi : i < nJS) (hd : decode u.2.1 pc = .ok (.invokevirtual 198, 3)) (hst : (st.map fun v => v.category).sum ≤ 8) (hM : MC g yJ0_length_8abf5 uJ0_length_8abf5 [.ref (1000 + i)] h (fun v h' => ME g u (pc + 3) lv (v.toList ++ st) h' Q)) : ME g u pc lv (.ref (1000 + i) :: st) h Q := m_callVS (As := []) (n := 0) hd (by rw [hu]; exact lk_X6_198) tw_427 tw_428 hi rfl hK hst hM
set_option maxRecDepth 100000 in
theorem lk_X6_204 : mLk RX6 204 yJ0_charAt_5068e uJ0_charAt_5068e 1 := ⟨tw_429, tw_430, tw_6, by decide +kernel, Nat.le_of_ble_eq_true rfl⟩
set_option maxRecDepth 100000 in
theorem cl_X6_204 {g : gT} {u : uT} {pc : Nat} {lv st : List Value} {h : mh_T} {Q : Option Value → mh_T → Prop} {i : Nat} {a1 : Value} (hu : u.1 = RX6) (hK : 4 < u.2.2.2.2) (hi : i < nJS) (hd : decode u.2.1 pc = .ok (.invokevirtual 204, 3)) (hst : (st.map fun v => v.category).sum ≤ 8) (hM : MC g yJ0_charAt_5068e uJ0_charAt_5068e [.ref (1000 + i), a1] h (fun v h' => ME g u (pc + 3) lv (v.toList ++ st) h' Q)) : ME g u pc lv (a1 :: .ref (1000 + i) :: st) h Q := m_callVS (As := [a1]) (n := 1) hd (by rw [hu]; exact lk_X6_204) tw_431 tw_432 hi rfl hK hst hM
set_option maxRecDepth 100000 in
theorem pf_X6_189 {g : gT} {u : uT} {pc : Nat} {lv st : List Value} {h : mh_T} {Q : Option Value → mh_T → Prop} {v : Int32} (hu : u.1 = RX6) (hd : decode u.2.1 pc = .ok (.putfield 189, 3)) (kk : ME g u (pc + 3) lv st (wI h 1 9 v) Q) : ME g u pc lv (.int v :: .ref 1 :: st) h Q := m_putI (ty := .int) (ci := 6) (k := 1) (j := 9) (q := (RX6, TX6, 12)) (ref := "NotAtOnce$Reader") hd rfl (by decide) (by decide) rfl rfl tinX6 tgX6 (by rw [hu]; exact tw_416) rfl tyX6 tyX6_ok nmX6 rfl (by decide +kernel) rfl rfl rfl kk
set_option maxRecDepth 100000 in
theorem pf_X6_131 {g : gT} {u : uT} {pc : Nat} {lv st : List Value} {h : mh_T} {Q : Option Value → mh_T → Prop} {v : Int64} (hu : u.1 = RX6) (hd : decode u.2.1 pc = .ok (.putfield 131, 3)) (kk : ME g u (pc + 3) lv st (wL h 1 10 v) Q) : ME g u pc lv (.long v :: .ref 1 :: st) h Q := m_putL (ty := .long) (ci := 6) (k := 1) (j := 10) (q := (RX6, TX6, 12)) (ref := "NotAtOnce$Reader") hd rfl (by decide) (by decide) rfl rfl tinX6 tgX6 (by rw [hu]; exact tw_389) rfl tyX6 tyX6_ok nmX6 rfl (by decide +kernel) rfl rfl rfl kk
set_option maxRecDepth 100000 in
theorem pf_X6_122 {g : gT} {u : uT} {pc : Nat} {lv st : List Value} {h : mh_T} {Q : Option Value → mh_T → Prop} {v : Int32} (hu : u.1 = RX6) (hd : decode u.2.1 pc = .ok (.putfield 122, 3)) (kk : ME g u (pc + 3) lv st (wI h 1 11 v) Q) : ME g u pc lv (.int v :: .ref 1 :: st) h Q := m_putI (ty := .int) (ci := 6) (k := 1) (j := 11) (q := (RX6, TX6, 12)) (ref := "NotAtOnce$Reader") hd rfl (by decide) (by decide) rfl rfl tinX6 tgX6 (by rw [hu]; exact tw_380) rfl tyX6 tyX6_ok nmX6 rfl (by decide +kernel) rfl rfl rfl kk
set_option maxRecDepth 100000 in
theorem pf_X6_61 {g : gT} {u : uT} {pc : Nat} {lv st : List Value} {h : mh_T} {Q : Option Value → mh_T → Prop} {v : Int32} (hu : u.1 = RX6) (hd : decode u.2.1 pc = .ok (.putfield 61, 3)) (kk : ME g u (pc + 3) lv st (wI h 1 8 v) Q) : ME g u pc lv (.int v :: .ref 1 :: st) h Q := m_putI (ty := .int) (ci := 6) (k := 1) (j := 8) (q := (RX6, TX6, 12)) (ref := "NotAtOnce$Reader") hd rfl (by decide) (by decide) rfl rfl tinX6 tgX6 (by rw [hu]; exact tw_339) rfl tyX6 tyX6_ok nmX6 rfl (by decide +kernel) rfl rfl rfl kk
set_option maxRecDepth 100000 in
theorem lk_X6_208 : mLk RX6 208 yX6_isLetter uX6_isLetter 1 := ⟨tw_433, tw_434, tw_328, by decide +kernel, Nat.le_of_ble_eq_true rfl⟩
set_option maxRecDepth 100000 in
theorem cl_X6_208 {g : gT} {u : uT} {pc : Nat} {lv st : List Value} {h : mh_T} {Q : Option Value → mh_T → Prop} {a1 : Value} (hu : u.1 = RX6) (hK : 1 < u.2.2.2.2) (hd : decode u.2.1 pc = .ok (.invokestatic 208, 3)) (hst : (st.map fun v => v.category).sum ≤ 8) (hM : MC g yX6_isLetter uX6_isLetter [a1] h (fun v h' => ME g u (pc + 3) lv (v.toList ++ st) h' Q)) : ME g u pc lv (a1 :: st) h Q := m_callS (As := [a1]) (n := 1) hd (by rw [hu]; exact lk_X6_208) tw_435 rfl hK hst hM
set_option maxRecDepth 100000 in
theorem lk_X6_214 : mLk RX6 214 yX6_takeSign uX6_takeSign 0 := ⟨tw_436, tw_437, tw_328, by decide +kernel, Nat.le_of_ble_eq_true rfl⟩
set_option maxRecDepth 100000 in
theorem cl_X6_214 {g : gT} {u : uT} {pc : Nat} {lv st : List Value} {h : mh_T} {Q : Option Value → mh_T → Prop} (hu : u.1 = RX6) (hK : 1 < u.2.2.2.2) (hd : decode u.2.1 pc = .ok (.invokevirtual 214, 3)) (hst : (st.map fun v => v.category).sum ≤ 8) (hM : MC g yX6_takeSign uX6_takeSign [.ref 1] h (fun v h' => ME g u (pc + 3) lv (v.toList ++ st) h' Q)) : ME g u pc lv (.ref 1 :: st) h Q := m_callV (As := []) (n := 0) (ci := 6) (k := 1) (q := (RX6, TX6, 12)) hd (by rw [hu]; exact lk_X6_214) tw_438 tw_439 rfl rfl (by decide) (by decide) rfl hK hst hM
set_option maxRecDepth 100000 in
theorem lk_X6_211 : mLk RX6 211 yX6_isDigit uX6_isDigit 1 := ⟨tw_440, tw_441, tw_328, by decide +kernel, Nat.le_of_ble_eq_true rfl⟩
set_option maxRecDepth 100000 in
theorem cl_X6_211 {g : gT} {u : uT} {pc : Nat} {lv st : List Value} {h : mh_T} {Q : Option Value → mh_T → Prop} {a1 : Value} (hu : u.1 = RX6) (hK : 1 < u.2.2.2.2) (hd : decode u.2.1 pc = .ok (.invokestatic 211, 3)) (hst : (st.map fun v => v.category).sum ≤ 8) (hM : MC g yX6_isDigit uX6_isDigit [a1] h (fun v h' => ME g u (pc + 3) lv (v.toList ++ st) h' Q)) : ME g u pc lv (a1 :: st) h Q := m_callS (As := [a1]) (n := 1) hd (by rw [hu]; exact lk_X6_211) tw_442 rfl hK hst hM
set_option maxRecDepth 100000 in
theorem gf_X10_82 {g : gT} {u : uT} {pc : Nat} {lv st : List Value} {h : mh_T} {Q : Option Value → mh_T → Prop} (hu : u.1 = RX10) (hd : decode u.2.1 pc = .ok (.getfield 82, 3)) (kk : ME g u (pc + 3) lv (.int (mI h 0 10) :: st) h Q) : ME g u pc lv (.ref 0 :: st) h Q := m_getI (ci := 10) (k := 0) (j := 10) (q := (RX10, TX10, 14)) (ref := "NotAtOnce") hd rfl (by decide) (by decide) rfl rfl tinX10 tgX10 (by rw [hu]; exact tw_443) rfl rfl kk
set_option maxRecDepth 100000 in
theorem lk_X10_86 : mLk RX10 86 yX10_put uX10_put 1 := ⟨tw_444, tw_445, tw_201, by decide +kernel, Nat.le_of_ble_eq_true rfl⟩
set_option maxRecDepth 100000 in
theorem cl_X10_86 {g : gT} {u : uT} {pc : Nat} {lv st : List Value} {h : mh_T} {Q : Option Value → mh_T → Prop} {a1 : Value} (hu : u.1 = RX10) (hK : 1 < u.2.2.2.2) (hd : decode u.2.1 pc = .ok (.invokevirtual 86, 3)) (hst : (st.map fun v => v.category).sum ≤ 8) (hM : MC g yX10_put uX10_put [.ref 0, a1] h (fun v h' => ME g u (pc + 3) lv (v.toList ++ st) h' Q)) : ME g u pc lv (a1 :: .ref 0 :: st) h Q := m_callV (As := [a1]) (n := 1) (ci := 10) (k := 0) (q := (RX10, TX10, 14)) hd (by rw [hu]; exact lk_X10_86) tw_446 tw_447 rfl rfl (by decide) (by decide) rfl hK hst hM
set_option maxRecDepth 100000 in
theorem gf_X10_18 {g : gT} {u : uT} {pc : Nat} {lv st : List Value} {h : mh_T} {Q : Option Value → mh_T → Prop} (hu : u.1 = RX10) (hd : decode u.2.1 pc = .ok (.getfield 18, 3)) (kk : ME g u (pc + 3) lv (.ref 1 :: st) h Q) : ME g u pc lv (.ref 0 :: st) h Q := m_getR (k' := 1) (ci := 10) (k := 0) (j := 1) (q := (RX10, TX10, 14)) (ref := "NotAtOnce") hd rfl (by decide) (by decide) rfl rfl tinX10 tgX10 (by rw [hu]; exact tw_448) rfl rfl rfl (by decide) kk
set_option maxRecDepth 100000 in
theorem gf_X10_97 {g : gT} {u : uT} {pc : Nat} {lv st : List Value} {h : mh_T} {Q : Option Value → mh_T → Prop} (hu : u.1 = RX10) (hd : decode u.2.1 pc = .ok (.getfield 97, 3)) (kk : ME g u (pc + 3) lv (.int (mI h 1 1) :: st) h Q) : ME g u pc lv (.ref 1 :: st) h Q := m_getI (ci := 6) (k := 1) (j := 1) (q := (RX6, TX6, 12)) (ref := "NotAtOnce$Reader") hd rfl (by decide) (by decide) rfl rfl tinX6 tgX6 (by rw [hu]; exact tw_449) rfl rfl kk
set_option maxRecDepth 100000 in
theorem gf_X10_100 {g : gT} {u : uT} {pc : Nat} {lv st : List Value} {h : mh_T} {Q : Option Value → mh_T → Prop} (hu : u.1 = RX10) (hd : decode u.2.1 pc = .ok (.getfield 100, 3)) (kk : ME g u (pc + 3) lv (.int (mI h 0 12) :: st) h Q) : ME g u pc lv (.ref 0 :: st) h Q := m_getI (ci := 10) (k := 0) (j := 12) (q := (RX10, TX10, 14)) (ref := "NotAtOnce") hd rfl (by decide) (by decide) rfl rfl tinX10 tgX10 (by rw [hu]; exact tw_450) rfl rfl kk
set_option maxRecDepth 100000 in
theorem gf_X10_103 {g : gT} {u : uT} {pc : Nat} {lv st : List Value} {h : mh_T} {Q : Option Value → mh_T → Prop} (hu : u.1 = RX10) (hd : decode u.2.1 pc = .ok (.getfield 103, 3)) (kk : ME g u (pc + 3) lv (.int (mI h 1 2) :: st) h Q) : ME g u pc lv (.ref 1 :: st) h Q := m_getI (ci := 6) (k := 1) (j := 2) (q := (RX6, TX6, 12)) (ref := "NotAtOnce$Reader") hd rfl (by decide) (by decide) rfl rfl tinX6 tgX6 (by rw [hu]; exact tw_451) rfl rfl kk
set_option maxRecDepth 100000 in
theorem gf_X10_25 {g : gT} {u : uT} {pc : Nat} {lv st : List Value} {h : mh_T} {Q : Option Value → mh_T → Prop} (hu : u.1 = RX10) (hd : decode u.2.1 pc = .ok (.getfield 25, 3)) (kk : ME g u (pc + 3) lv (.ref 3 :: st) h Q) : ME g u pc lv (.ref 0 :: st) h Q := m_getR (k' := 3) (ci := 10) (k := 0) (j := 2) (q := (RX10, TX10, 14)) (ref := "NotAtOnce") hd rfl (by decide) (by decide) rfl rfl tinX10 tgX10 (by rw [hu]; exact tw_452) rfl rfl rfl (by decide) kk
set_option maxRecDepth 100000 in
theorem gf_X10_109 {g : gT} {u : uT} {pc : Nat} {lv st : List Value} {h : mh_T} {Q : Option Value → mh_T → Prop} (hu : u.1 = RX10) (hd : decode u.2.1 pc = .ok (.getfield 109, 3)) (kk : ME g u (pc + 3) lv (.ref 2 :: st) h Q) : ME g u pc lv (.ref 1 :: st) h Q := m_getR (k' := 2) (ci := 6) (k := 1) (j := 0) (q := (RX6, TX6, 12)) (ref := "NotAtOnce$Reader") hd rfl (by decide) (by decide) rfl rfl tinX6 tgX6 (by rw [hu]; exact tw_453) rfl rfl rfl (by decide) kk
set_option maxRecDepth 100000 in
theorem gf_X10_57 {g : gT} {u : uT} {pc : Nat} {lv st : List Value} {h : mh_T} {Q : Option Value → mh_T → Prop} (hu : u.1 = RX10) (hd : decode u.2.1 pc = .ok (.getfield 57, 3)) (kk : ME g u (pc + 3) lv (.ref 7 :: st) h Q) : ME g u pc lv (.ref 0 :: st) h Q := m_getR (k' := 7) (ci := 10) (k := 0) (j := 5) (q := (RX10, TX10, 14)) (ref := "NotAtOnce") hd rfl (by decide) (by decide) rfl rfl tinX10 tgX10 (by rw [hu]; exact tw_454) rfl rfl rfl (by decide) kk
set_option maxRecDepth 100000 in
theorem gf_X10_64 {g : gT} {u : uT} {pc : Nat} {lv st : List Value} {h : mh_T} {Q : Option Value → mh_T → Prop} (hu : u.1 = RX10) (hd : decode u.2.1 pc = .ok (.getfield 64, 3)) (kk : ME g u (pc + 3) lv (.ref 8 :: st) h Q) : ME g u pc lv (.ref 0 :: st) h Q := m_getR (k' := 8) (ci := 10) (k := 0) (j := 6) (q := (RX10, TX10, 14)) (ref := "NotAtOnce") hd rfl (by decide) (by decide) rfl rfl tinX10 tgX10 (by rw [hu]; exact tw_455) rfl rfl rfl (by decide) kk
set_option maxRecDepth 100000 in
theorem gf_X10_71 {g : gT} {u : uT} {pc : Nat} {lv st : List Value} {h : mh_T} {Q : Option Value → mh_T → Prop} (hu : u.1 = RX10) (hd : decode u.2.1 pc = .ok (.getfield 71, 3)) (kk : ME g u (pc + 3) lv (.ref 9 :: st) h Q) : ME g u pc lv (.ref 0 :: st) h Q := m_getR (k' := 9) (ci := 10) (k := 0) (j := 7) (q := (RX10, TX10, 14)) (ref := "NotAtOnce") hd rfl (by decide) (by decide) rfl rfl tinX10 tgX10 (by rw [hu]; exact tw_456) rfl rfl rfl (by decide) kk
set_option maxRecDepth 100000 in
theorem gf_X10_78 {g : gT} {u : uT} {pc : Nat} {lv st : List Value} {h : mh_T} {Q : Option Value → mh_T → Prop} (hu : u.1 = RX10) (hd : decode u.2.1 pc = .ok (.getfield 78, 3)) (kk : ME g u (pc + 3) lv (.ref 10 :: st) h Q) : ME g u pc lv (.ref 0 :: st) h Q := m_getR (k' := 10) (ci := 10) (k := 0) (j := 8) (q := (RX10, TX10, 14)) (ref := "NotAtOnce") hd rfl (by decide) (by decide) rfl rfl tinX10 tgX10 (by rw [hu]; exact tw_457) rfl rfl rfl (by decide) kk
set_option maxRecDepth 100000 in
theorem gf_X10_122 {g : gT} {u : uT} {pc : Nat} {lv st : List Value} {h : mh_T} {Q : Option Value → mh_T → Prop} (hu : u.1 = RX10) (hd : decode u.2.1 pc = .ok (.getfield 122, 3)) (kk : ME g u (pc + 3) lv (.int (mI h 3 1) :: st) h Q) : ME g u pc lv (.ref 3 :: st) h Q := m_getI (ci := 8) (k := 3) (j := 1) (q := (RX8, TX8, 8)) (ref := "NotAtOnce$Table") hd rfl (by decide) (by decide) rfl rfl tinX8 tgX8 (by rw [hu]; exact tw_458) rfl rfl kk
set_option maxRecDepth 100000 in
theorem lk_X10_90 : mLk RX10 90 yX10_refused uX10_refused 1 := ⟨tw_459, tw_460, tw_201, by decide +kernel, Nat.le_of_ble_eq_true rfl⟩
set_option maxRecDepth 100000 in
theorem cl_X10_90 {g : gT} {u : uT} {pc : Nat} {lv st : List Value} {h : mh_T} {Q : Option Value → mh_T → Prop} {a1 : Value} (hu : u.1 = RX10) (hK : 1 < u.2.2.2.2) (hd : decode u.2.1 pc = .ok (.invokevirtual 90, 3)) (hst : (st.map fun v => v.category).sum ≤ 8) (hM : MC g yX10_refused uX10_refused [.ref 0, a1] h (fun v h' => ME g u (pc + 3) lv (v.toList ++ st) h' Q)) : ME g u pc lv (a1 :: .ref 0 :: st) h Q := m_callV (As := [a1]) (n := 1) (ci := 10) (k := 0) (q := (RX10, TX10, 14)) hd (by rw [hu]; exact lk_X10_90) tw_461 tw_462 rfl rfl (by decide) (by decide) rfl hK hst hM
set_option maxRecDepth 100000 in
theorem pf_X10_82 {g : gT} {u : uT} {pc : Nat} {lv st : List Value} {h : mh_T} {Q : Option Value → mh_T → Prop} {v : Int32} (hu : u.1 = RX10) (hd : decode u.2.1 pc = .ok (.putfield 82, 3)) (kk : ME g u (pc + 3) lv st (wI h 0 10 v) Q) : ME g u pc lv (.int v :: .ref 0 :: st) h Q := m_putI (ty := .int) (ci := 10) (k := 0) (j := 10) (q := (RX10, TX10, 14)) (ref := "NotAtOnce") hd rfl (by decide) (by decide) rfl rfl tinX10 tgX10 (by rw [hu]; exact tw_443) rfl tyX10 tyX10_ok nmX10 rfl (by decide +kernel) rfl rfl rfl kk
set_option maxRecDepth 100000 in
theorem lk_X10_94 : mLk RX10 94 yX6_read uX6_read 1 := ⟨tw_463, tw_464, tw_328, by decide +kernel, Nat.le_of_ble_eq_true rfl⟩
set_option maxRecDepth 100000 in
theorem cl_X10_94 {g : gT} {u : uT} {pc : Nat} {lv st : List Value} {h : mh_T} {Q : Option Value → mh_T → Prop} {a1 : Value} (hu : u.1 = RX10) (hK : 10 < u.2.2.2.2) (hd : decode u.2.1 pc = .ok (.invokevirtual 94, 3)) (hst : (st.map fun v => v.category).sum ≤ 8) (hM : MC g yX6_read uX6_read [.ref 1, a1] h (fun v h' => ME g u (pc + 3) lv (v.toList ++ st) h' Q)) : ME g u pc lv (a1 :: .ref 1 :: st) h Q := m_callV (As := [a1]) (n := 1) (ci := 6) (k := 1) (q := (RX6, TX6, 12)) hd (by rw [hu]; exact lk_X10_94) tw_465 tw_466 rfl rfl (by decide) (by decide) rfl hK hst hM
set_option maxRecDepth 100000 in
theorem pf_X10_100 {g : gT} {u : uT} {pc : Nat} {lv st : List Value} {h : mh_T} {Q : Option Value → mh_T → Prop} {v : Int32} (hu : u.1 = RX10) (hd : decode u.2.1 pc = .ok (.putfield 100, 3)) (kk : ME g u (pc + 3) lv st (wI h 0 12 v) Q) : ME g u pc lv (.int v :: .ref 0 :: st) h Q := m_putI (ty := .int) (ci := 10) (k := 0) (j := 12) (q := (RX10, TX10, 14)) (ref := "NotAtOnce") hd rfl (by decide) (by decide) rfl rfl tinX10 tgX10 (by rw [hu]; exact tw_450) rfl tyX10 tyX10_ok nmX10 rfl (by decide +kernel) rfl rfl rfl kk
set_option maxRecDepth 100000 in
theorem lk_X10_113 : mLk RX10 113 yX8_open uX8_open 1 := ⟨tw_467, tw_468, tw_46, by decide +kernel, Nat.le_of_ble_eq_true rfl⟩
set_option maxRecDepth 100000 in
theorem cl_X10_113 {g : gT} {u : uT} {pc : Nat} {lv st : List Value} {h : mh_T} {Q : Option Value → mh_T → Prop} {a1 : Value} (hu : u.1 = RX10) (hK : 2 < u.2.2.2.2) (hd : decode u.2.1 pc = .ok (.invokevirtual 113, 3)) (hst : (st.map fun v => v.category).sum ≤ 8) (hM : MC g yX8_open uX8_open [.ref 3, a1] h (fun v h' => ME g u (pc + 3) lv (v.toList ++ st) h' Q)) : ME g u pc lv (a1 :: .ref 3 :: st) h Q := m_callV (As := [a1]) (n := 1) (ci := 8) (k := 3) (q := (RX8, TX8, 8)) hd (by rw [hu]; exact lk_X10_113) tw_469 tw_470 rfl rfl (by decide) (by decide) rfl hK hst hM
set_option maxRecDepth 100000 in
theorem lk_X10_117 : mLk RX10 117 yX5_open uX5_open 1 := ⟨tw_471, tw_472, tw_147, by decide +kernel, Nat.le_of_ble_eq_true rfl⟩
set_option maxRecDepth 100000 in
theorem cl_X10_117 {g : gT} {u : uT} {pc : Nat} {lv st : List Value} {h : mh_T} {Q : Option Value → mh_T → Prop} {a1 : Value} (hu : u.1 = RX10) (hK : 3 < u.2.2.2.2) (hd : decode u.2.1 pc = .ok (.invokevirtual 117, 3)) (hst : (st.map fun v => v.category).sum ≤ 8) (hM : MC g yX5_open uX5_open [.ref 7, a1] h (fun v h' => ME g u (pc + 3) lv (v.toList ++ st) h' Q)) : ME g u pc lv (a1 :: .ref 7 :: st) h Q := m_callV (As := [a1]) (n := 1) (ci := 5) (k := 7) (q := (RX5, TX5, 6)) hd (by rw [hu]; exact lk_X10_117) tw_473 tw_474 rfl rfl (by decide) (by decide) rfl hK hst hM
set_option maxRecDepth 100000 in
theorem lk_X10_118 : mLk RX10 118 yX3_open uX3_open 1 := ⟨tw_475, tw_476, tw_167, by decide +kernel, Nat.le_of_ble_eq_true rfl⟩
set_option maxRecDepth 100000 in
theorem cl_X10_118 {g : gT} {u : uT} {pc : Nat} {lv st : List Value} {h : mh_T} {Q : Option Value → mh_T → Prop} {a1 : Value} (hu : u.1 = RX10) (hK : 3 < u.2.2.2.2) (hd : decode u.2.1 pc = .ok (.invokevirtual 118, 3)) (hst : (st.map fun v => v.category).sum ≤ 8) (hM : MC g yX3_open uX3_open [.ref 8, a1] h (fun v h' => ME g u (pc + 3) lv (v.toList ++ st) h' Q)) : ME g u pc lv (a1 :: .ref 8 :: st) h Q := m_callV (As := [a1]) (n := 1) (ci := 3) (k := 8) (q := (RX3, TX3, 12)) hd (by rw [hu]; exact lk_X10_118) tw_477 tw_478 rfl rfl (by decide) (by decide) rfl hK hst hM
set_option maxRecDepth 100000 in
theorem lk_X10_119 : mLk RX10 119 yX9_open uX9_open 1 := ⟨tw_479, tw_480, tw_218, by decide +kernel, Nat.le_of_ble_eq_true rfl⟩
set_option maxRecDepth 100000 in
theorem cl_X10_119 {g : gT} {u : uT} {pc : Nat} {lv st : List Value} {h : mh_T} {Q : Option Value → mh_T → Prop} {a1 : Value} (hu : u.1 = RX10) (hK : 1 < u.2.2.2.2) (hd : decode u.2.1 pc = .ok (.invokevirtual 119, 3)) (hst : (st.map fun v => v.category).sum ≤ 8) (hM : MC g yX9_open uX9_open [.ref 9, a1] h (fun v h' => ME g u (pc + 3) lv (v.toList ++ st) h' Q)) : ME g u pc lv (a1 :: .ref 9 :: st) h Q := m_callV (As := [a1]) (n := 1) (ci := 9) (k := 9) (q := (RX9, TX9, 10)) hd (by rw [hu]; exact lk_X10_119) tw_481 tw_482 rfl rfl (by decide) (by decide) rfl hK hst hM
set_option maxRecDepth 100000 in
theorem lk_X10_120 : mLk RX10 120 yX4_open uX4_open 0 := ⟨tw_483, tw_484, tw_240, by decide +kernel, Nat.le_of_ble_eq_true rfl⟩
set_option maxRecDepth 100000 in
theorem cl_X10_120 {g : gT} {u : uT} {pc : Nat} {lv st : List Value} {h : mh_T} {Q : Option Value → mh_T → Prop} (hu : u.1 = RX10) (hK : 1 < u.2.2.2.2) (hd : decode u.2.1 pc = .ok (.invokevirtual 120, 3)) (hst : (st.map fun v => v.category).sum ≤ 8) (hM : MC g yX4_open uX4_open [.ref 10] h (fun v h' => ME g u (pc + 3) lv (v.toList ++ st) h' Q)) : ME g u pc lv (.ref 10 :: st) h Q := m_callV (As := []) (n := 0) (ci := 4) (k := 10) (q := (RX4, TX4, 7)) hd (by rw [hu]; exact lk_X10_120) tw_485 tw_486 rfl rfl (by decide) (by decide) rfl hK hst hM
set_option maxRecDepth 100000 in
theorem lk_X10_125 : mLk RX10 125 yX10_told uX10_told 1 := ⟨tw_487, tw_488, tw_201, by decide +kernel, Nat.le_of_ble_eq_true rfl⟩
set_option maxRecDepth 100000 in
theorem cl_X10_125 {g : gT} {u : uT} {pc : Nat} {lv st : List Value} {h : mh_T} {Q : Option Value → mh_T → Prop} {a1 : Value} (hu : u.1 = RX10) (hK : 1 < u.2.2.2.2) (hd : decode u.2.1 pc = .ok (.invokevirtual 125, 3)) (hst : (st.map fun v => v.category).sum ≤ 8) (hM : MC g yX10_told uX10_told [.ref 0, a1] h (fun v h' => ME g u (pc + 3) lv (v.toList ++ st) h' Q)) : ME g u pc lv (a1 :: .ref 0 :: st) h Q := m_callV (As := [a1]) (n := 1) (ci := 10) (k := 0) (q := (RX10, TX10, 14)) hd (by rw [hu]; exact lk_X10_125) tw_489 tw_490 rfl rfl (by decide) (by decide) rfl hK hst hM
set_option maxRecDepth 100000 in
theorem pf_X10_106 {g : gT} {u : uT} {pc : Nat} {lv st : List Value} {h : mh_T} {Q : Option Value → mh_T → Prop} {v : Int32} (hu : u.1 = RX10) (hd : decode u.2.1 pc = .ok (.putfield 106, 3)) (kk : ME g u (pc + 3) lv st (wI h 0 13 v) Q) : ME g u pc lv (.int v :: .ref 0 :: st) h Q := m_putI (ty := .int) (ci := 10) (k := 0) (j := 13) (q := (RX10, TX10, 14)) (ref := "NotAtOnce") hd rfl (by decide) (by decide) rfl rfl tinX10 tgX10 (by rw [hu]; exact tw_491) rfl tyX10 tyX10_ok nmX10 rfl (by decide +kernel) rfl rfl rfl kk
set_option maxRecDepth 100000 in
theorem gf_X10_128 {g : gT} {u : uT} {pc : Nat} {lv st : List Value} {h : mh_T} {Q : Option Value → mh_T → Prop} (hu : u.1 = RX10) (hd : decode u.2.1 pc = .ok (.getfield 128, 3)) (kk : ME g u (pc + 3) lv (.int (mI h 0 11) :: st) h Q) : ME g u pc lv (.ref 0 :: st) h Q := m_getI (ci := 10) (k := 0) (j := 11) (q := (RX10, TX10, 14)) (ref := "NotAtOnce") hd rfl (by decide) (by decide) rfl rfl tinX10 tgX10 (by rw [hu]; exact tw_492) rfl rfl kk
set_option maxRecDepth 100000 in
theorem gf_X10_106 {g : gT} {u : uT} {pc : Nat} {lv st : List Value} {h : mh_T} {Q : Option Value → mh_T → Prop} (hu : u.1 = RX10) (hd : decode u.2.1 pc = .ok (.getfield 106, 3)) (kk : ME g u (pc + 3) lv (.int (mI h 0 13) :: st) h Q) : ME g u pc lv (.ref 0 :: st) h Q := m_getI (ci := 10) (k := 0) (j := 13) (q := (RX10, TX10, 14)) (ref := "NotAtOnce") hd rfl (by decide) (by decide) rfl rfl tinX10 tgX10 (by rw [hu]; exact tw_491) rfl rfl kk
set_option maxRecDepth 100000 in
theorem gf_X10_50 {g : gT} {u : uT} {pc : Nat} {lv st : List Value} {h : mh_T} {Q : Option Value → mh_T → Prop} (hu : u.1 = RX10) (hd : decode u.2.1 pc = .ok (.getfield 50, 3)) (kk : ME g u (pc + 3) lv (.ref 6 :: st) h Q) : ME g u pc lv (.ref 0 :: st) h Q := m_getR (k' := 6) (ci := 10) (k := 0) (j := 4) (q := (RX10, TX10, 14)) (ref := "NotAtOnce") hd rfl (by decide) (by decide) rfl rfl tinX10 tgX10 (by rw [hu]; exact tw_493) rfl rfl rfl (by decide) kk
set_option maxRecDepth 100000 in
theorem gf_X10_41 {g : gT} {u : uT} {pc : Nat} {lv st : List Value} {h : mh_T} {Q : Option Value → mh_T → Prop} (hu : u.1 = RX10) (hd : decode u.2.1 pc = .ok (.getfield 41, 3)) (kk : ME g u (pc + 3) lv (.ref 5 :: st) h Q) : ME g u pc lv (.ref 0 :: st) h Q := m_getR (k' := 5) (ci := 10) (k := 0) (j := 9) (q := (RX10, TX10, 14)) (ref := "NotAtOnce") hd rfl (by decide) (by decide) rfl rfl tinX10 tgX10 (by rw [hu]; exact tw_494) rfl rfl rfl (by decide) kk
set_option maxRecDepth 100000 in
theorem lk_X10_131 : mLk RX10 131 yX10_noBook uX10_noBook 0 := ⟨tw_495, tw_496, tw_201, by decide +kernel, Nat.le_of_ble_eq_true rfl⟩
set_option maxRecDepth 100000 in
theorem cl_X10_131 {g : gT} {u : uT} {pc : Nat} {lv st : List Value} {h : mh_T} {Q : Option Value → mh_T → Prop} (hu : u.1 = RX10) (hK : 1 < u.2.2.2.2) (hd : decode u.2.1 pc = .ok (.invokevirtual 131, 3)) (hst : (st.map fun v => v.category).sum ≤ 8) (hM : MC g yX10_noBook uX10_noBook [.ref 0] h (fun v h' => ME g u (pc + 3) lv (v.toList ++ st) h' Q)) : ME g u pc lv (.ref 0 :: st) h Q := m_callV (As := []) (n := 0) (ci := 10) (k := 0) (q := (RX10, TX10, 14)) hd (by rw [hu]; exact lk_X10_131) tw_497 tw_498 rfl rfl (by decide) (by decide) rfl hK hst hM
set_option maxRecDepth 100000 in
theorem lk_X10_135 : mLk RX10 135 yX0_findShare uX0_findShare 0 := ⟨tw_499, tw_500, tw_257, by decide +kernel, Nat.le_of_ble_eq_true rfl⟩
set_option maxRecDepth 100000 in
theorem cl_X10_135 {g : gT} {u : uT} {pc : Nat} {lv st : List Value} {h : mh_T} {Q : Option Value → mh_T → Prop} (hu : u.1 = RX10) (hK : 5 < u.2.2.2.2) (hd : decode u.2.1 pc = .ok (.invokevirtual 135, 3)) (hst : (st.map fun v => v.category).sum ≤ 8) (hM : MC g yX0_findShare uX0_findShare [.ref 6] h (fun v h' => ME g u (pc + 3) lv (v.toList ++ st) h' Q)) : ME g u pc lv (.ref 6 :: st) h Q := m_callV (As := []) (n := 0) (ci := 0) (k := 6) (q := (RX0, TX0, 9)) hd (by rw [hu]; exact lk_X10_135) tw_501 tw_502 rfl rfl (by decide) (by decide) rfl hK hst hM
set_option maxRecDepth 100000 in
theorem lk_X10_138 : mLk RX10 138 yX2_part uX2_part 1 := ⟨tw_503, tw_504, tw_92, by decide +kernel, Nat.le_of_ble_eq_true rfl⟩
set_option maxRecDepth 100000 in
theorem cl_X10_138 {g : gT} {u : uT} {pc : Nat} {lv st : List Value} {h : mh_T} {Q : Option Value → mh_T → Prop} {a1 : Value} (hu : u.1 = RX10) (hK : 1 < u.2.2.2.2) (hd : decode u.2.1 pc = .ok (.invokevirtual 138, 3)) (hst : (st.map fun v => v.category).sum ≤ 8) (hM : MC g yX2_part uX2_part [.ref 5, a1] h (fun v h' => ME g u (pc + 3) lv (v.toList ++ st) h' Q)) : ME g u pc lv (a1 :: .ref 5 :: st) h Q := m_callV (As := [a1]) (n := 1) (ci := 2) (k := 5) (q := (RX2, TX2, 2)) hd (by rw [hu]; exact lk_X10_138) tw_505 tw_506 rfl rfl (by decide) (by decide) rfl hK hst hM
set_option maxRecDepth 100000 in
theorem lk_X10_142 : mLk RX10 142 yX8_hasLook uX8_hasLook 1 := ⟨tw_507, tw_508, tw_46, by decide +kernel, Nat.le_of_ble_eq_true rfl⟩
set_option maxRecDepth 100000 in
theorem cl_X10_142 {g : gT} {u : uT} {pc : Nat} {lv st : List Value} {h : mh_T} {Q : Option Value → mh_T → Prop} {a1 : Value} (hu : u.1 = RX10) (hK : 1 < u.2.2.2.2) (hd : decode u.2.1 pc = .ok (.invokevirtual 142, 3)) (hst : (st.map fun v => v.category).sum ≤ 8) (hM : MC g yX8_hasLook uX8_hasLook [.ref 3, a1] h (fun v h' => ME g u (pc + 3) lv (v.toList ++ st) h' Q)) : ME g u pc lv (a1 :: .ref 3 :: st) h Q := m_callV (As := [a1]) (n := 1) (ci := 8) (k := 3) (q := (RX8, TX8, 8)) hd (by rw [hu]; exact lk_X10_142) tw_509 tw_510 rfl rfl (by decide) (by decide) rfl hK hst hM
set_option maxRecDepth 100000 in
theorem lk_X10_146 : mLk RX10 146 yX10_isBit uX10_isBit 1 := ⟨tw_511, tw_512, tw_201, by decide +kernel, Nat.le_of_ble_eq_true rfl⟩
set_option maxRecDepth 100000 in
theorem cl_X10_146 {g : gT} {u : uT} {pc : Nat} {lv st : List Value} {h : mh_T} {Q : Option Value → mh_T → Prop} {a1 : Value} (hu : u.1 = RX10) (hK : 1 < u.2.2.2.2) (hd : decode u.2.1 pc = .ok (.invokestatic 146, 3)) (hst : (st.map fun v => v.category).sum ≤ 8) (hM : MC g yX10_isBit uX10_isBit [a1] h (fun v h' => ME g u (pc + 3) lv (v.toList ++ st) h' Q)) : ME g u pc lv (a1 :: st) h Q := m_callS (As := [a1]) (n := 1) hd (by rw [hu]; exact lk_X10_146) tw_513 rfl hK hst hM
set_option maxRecDepth 100000 in
theorem lk_X10_149 : mLk RX10 149 yX0_isMixed uX0_isMixed 0 := ⟨tw_514, tw_515, tw_257, by decide +kernel, Nat.le_of_ble_eq_true rfl⟩
set_option maxRecDepth 100000 in
theorem cl_X10_149 {g : gT} {u : uT} {pc : Nat} {lv st : List Value} {h : mh_T} {Q : Option Value → mh_T → Prop} (hu : u.1 = RX10) (hK : 5 < u.2.2.2.2) (hd : decode u.2.1 pc = .ok (.invokevirtual 149, 3)) (hst : (st.map fun v => v.category).sum ≤ 8) (hM : MC g yX0_isMixed uX0_isMixed [.ref 6] h (fun v h' => ME g u (pc + 3) lv (v.toList ++ st) h' Q)) : ME g u pc lv (.ref 6 :: st) h Q := m_callV (As := []) (n := 0) (ci := 0) (k := 6) (q := (RX0, TX0, 9)) hd (by rw [hu]; exact lk_X10_149) tw_516 tw_517 rfl rfl (by decide) (by decide) rfl hK hst hM
set_option maxRecDepth 100000 in
theorem lk_X10_152 : mLk RX10 152 yX0_findTogether uX0_findTogether 3 := ⟨tw_518, tw_519, tw_257, by decide +kernel, Nat.le_of_ble_eq_true rfl⟩
set_option maxRecDepth 100000 in
theorem cl_X10_152 {g : gT} {u : uT} {pc : Nat} {lv st : List Value} {h : mh_T} {Q : Option Value → mh_T → Prop} {a1 a2 a3 : Value} (hu : u.1 = RX10) (hK : 5 < u.2.2.2.2) (hd : decode u.2.1 pc = .ok (.invokevirtual 152, 3)) (hst : (st.map fun v => v.category).sum ≤ 8) (hM : MC g yX0_findTogether uX0_findTogether [.ref 6, a1, a2, a3] h (fun v h' => ME g u (pc + 3) lv (v.toList ++ st) h' Q)) : ME g u pc lv (a3 :: a2 :: a1 :: .ref 6 :: st) h Q := m_callV (As := [a1, a2, a3]) (n := 3) (ci := 0) (k := 6) (q := (RX0, TX0, 9)) hd (by rw [hu]; exact lk_X10_152) tw_520 tw_521 rfl rfl (by decide) (by decide) rfl hK hst hM
set_option maxRecDepth 100000 in
theorem lk_X10_156 : mLk RX10 156 yX8_hasOutcome uX8_hasOutcome 2 := ⟨tw_522, tw_523, tw_46, by decide +kernel, Nat.le_of_ble_eq_true rfl⟩
set_option maxRecDepth 100000 in
theorem cl_X10_156 {g : gT} {u : uT} {pc : Nat} {lv st : List Value} {h : mh_T} {Q : Option Value → mh_T → Prop} {a1 a2 : Value} (hu : u.1 = RX10) (hK : 2 < u.2.2.2.2) (hd : decode u.2.1 pc = .ok (.invokevirtual 156, 3)) (hst : (st.map fun v => v.category).sum ≤ 8) (hM : MC g yX8_hasOutcome uX8_hasOutcome [.ref 3, a1, a2] h (fun v h' => ME g u (pc + 3) lv (v.toList ++ st) h' Q)) : ME g u pc lv (a2 :: a1 :: .ref 3 :: st) h Q := m_callV (As := [a1, a2]) (n := 2) (ci := 8) (k := 3) (q := (RX8, TX8, 8)) hd (by rw [hu]; exact lk_X10_156) tw_524 tw_525 rfl rfl (by decide) (by decide) rfl hK hst hM
set_option maxRecDepth 100000 in
theorem lk_X10_160 : mLk RX10 160 yX8_extending uX8_extending 0 := ⟨tw_526, tw_527, tw_46, by decide +kernel, Nat.le_of_ble_eq_true rfl⟩
set_option maxRecDepth 100000 in
theorem cl_X10_160 {g : gT} {u : uT} {pc : Nat} {lv st : List Value} {h : mh_T} {Q : Option Value → mh_T → Prop} (hu : u.1 = RX10) (hK : 3 < u.2.2.2.2) (hd : decode u.2.1 pc = .ok (.invokevirtual 160, 3)) (hst : (st.map fun v => v.category).sum ≤ 8) (hM : MC g yX8_extending uX8_extending [.ref 3] h (fun v h' => ME g u (pc + 3) lv (v.toList ++ st) h' Q)) : ME g u pc lv (.ref 3 :: st) h Q := m_callV (As := []) (n := 0) (ci := 8) (k := 3) (q := (RX8, TX8, 8)) hd (by rw [hu]; exact lk_X10_160) tw_528 tw_529 rfl rfl (by decide) (by decide) rfl hK hst hM
set_option maxRecDepth 100000 in
theorem lk_X10_164 : mLk RX10 164 yX8_possible uX8_possible 0 := ⟨tw_530, tw_531, tw_46, by decide +kernel, Nat.le_of_ble_eq_true rfl⟩
set_option maxRecDepth 100000 in
theorem cl_X10_164 {g : gT} {u : uT} {pc : Nat} {lv st : List Value} {h : mh_T} {Q : Option Value → mh_T → Prop} (hu : u.1 = RX10) (hK : 1 < u.2.2.2.2) (hd : decode u.2.1 pc = .ok (.invokevirtual 164, 3)) (hst : (st.map fun v => v.category).sum ≤ 8) (hM : MC g yX8_possible uX8_possible [.ref 3] h (fun v h' => ME g u (pc + 3) lv (v.toList ++ st) h' Q)) : ME g u pc lv (.ref 3 :: st) h Q := m_callV (As := []) (n := 0) (ci := 8) (k := 3) (q := (RX8, TX8, 8)) hd (by rw [hu]; exact lk_X10_164) tw_532 tw_533 rfl rfl (by decide) (by decide) rfl hK hst hM
set_option maxRecDepth 100000 in
theorem lk_X10_167 : mLk RX10 167 yX8_fitting uX8_fitting 0 := ⟨tw_534, tw_535, tw_46, by decide +kernel, Nat.le_of_ble_eq_true rfl⟩
set_option maxRecDepth 100000 in
theorem cl_X10_167 {g : gT} {u : uT} {pc : Nat} {lv st : List Value} {h : mh_T} {Q : Option Value → mh_T → Prop} (hu : u.1 = RX10) (hK : 3 < u.2.2.2.2) (hd : decode u.2.1 pc = .ok (.invokevirtual 167, 3)) (hst : (st.map fun v => v.category).sum ≤ 8) (hM : MC g yX8_fitting uX8_fitting [.ref 3] h (fun v h' => ME g u (pc + 3) lv (v.toList ++ st) h' Q)) : ME g u pc lv (.ref 3 :: st) h Q := m_callV (As := []) (n := 0) (ci := 8) (k := 3) (q := (RX8, TX8, 8)) hd (by rw [hu]; exact lk_X10_167) tw_536 tw_537 rfl rfl (by decide) (by decide) rfl hK hst hM
set_option maxRecDepth 100000 in
theorem lk_X10_170 : mLk RX10 170 yX8_fittingAt uX8_fittingAt 1 := ⟨tw_538, tw_539, tw_46, by decide +kernel, Nat.le_of_ble_eq_true rfl⟩
set_option maxRecDepth 100000 in
theorem cl_X10_170 {g : gT} {u : uT} {pc : Nat} {lv st : List Value} {h : mh_T} {Q : Option Value → mh_T → Prop} {a1 : Value} (hu : u.1 = RX10) (hK : 3 < u.2.2.2.2) (hd : decode u.2.1 pc = .ok (.invokevirtual 170, 3)) (hst : (st.map fun v => v.category).sum ≤ 8) (hM : MC g yX8_fittingAt uX8_fittingAt [.ref 3, a1] h (fun v h' => ME g u (pc + 3) lv (v.toList ++ st) h' Q)) : ME g u pc lv (a1 :: .ref 3 :: st) h Q := m_callV (As := [a1]) (n := 1) (ci := 8) (k := 3) (q := (RX8, TX8, 8)) hd (by rw [hu]; exact lk_X10_170) tw_540 tw_541 rfl rfl (by decide) (by decide) rfl hK hst hM
set_option maxRecDepth 100000 in
theorem lk_X10_173 : mLk RX10 173 yX8_firstDisturbed uX8_firstDisturbed 0 := ⟨tw_542, tw_543, tw_46, by decide +kernel, Nat.le_of_ble_eq_true rfl⟩
set_option maxRecDepth 100000 in
theorem cl_X10_173 {g : gT} {u : uT} {pc : Nat} {lv st : List Value} {h : mh_T} {Q : Option Value → mh_T → Prop} (hu : u.1 = RX10) (hK : 2 < u.2.2.2.2) (hd : decode u.2.1 pc = .ok (.invokevirtual 173, 3)) (hst : (st.map fun v => v.category).sum ≤ 8) (hM : MC g yX8_firstDisturbed uX8_firstDisturbed [.ref 3] h (fun v h' => ME g u (pc + 3) lv (v.toList ++ st) h' Q)) : ME g u pc lv (.ref 3 :: st) h Q := m_callV (As := []) (n := 0) (ci := 8) (k := 3) (q := (RX8, TX8, 8)) hd (by rw [hu]; exact lk_X10_173) tw_544 tw_545 rfl rfl (by decide) (by decide) rfl hK hst hM
set_option maxRecDepth 100000 in
theorem lk_X10_176 : mLk RX10 176 yX8_hasPair uX8_hasPair 1 := ⟨tw_107, tw_546, tw_46, by decide +kernel, Nat.le_of_ble_eq_true rfl⟩
set_option maxRecDepth 100000 in
theorem cl_X10_176 {g : gT} {u : uT} {pc : Nat} {lv st : List Value} {h : mh_T} {Q : Option Value → mh_T → Prop} {a1 : Value} (hu : u.1 = RX10) (hK : 2 < u.2.2.2.2) (hd : decode u.2.1 pc = .ok (.invokevirtual 176, 3)) (hst : (st.map fun v => v.category).sum ≤ 8) (hM : MC g yX8_hasPair uX8_hasPair [.ref 3, a1] h (fun v h' => ME g u (pc + 3) lv (v.toList ++ st) h' Q)) : ME g u pc lv (a1 :: .ref 3 :: st) h Q := m_callV (As := [a1]) (n := 1) (ci := 8) (k := 3) (q := (RX8, TX8, 8)) hd (by rw [hu]; exact lk_X10_176) tw_109 tw_110 rfl rfl (by decide) (by decide) rfl hK hst hM
set_option maxRecDepth 100000 in
theorem lk_X10_179 : mLk RX10 179 yX8_alike uX8_alike 1 := ⟨tw_122, tw_547, tw_46, by decide +kernel, Nat.le_of_ble_eq_true rfl⟩
set_option maxRecDepth 100000 in
theorem cl_X10_179 {g : gT} {u : uT} {pc : Nat} {lv st : List Value} {h : mh_T} {Q : Option Value → mh_T → Prop} {a1 : Value} (hu : u.1 = RX10) (hK : 1 < u.2.2.2.2) (hd : decode u.2.1 pc = .ok (.invokevirtual 179, 3)) (hst : (st.map fun v => v.category).sum ≤ 8) (hM : MC g yX8_alike uX8_alike [.ref 3, a1] h (fun v h' => ME g u (pc + 3) lv (v.toList ++ st) h' Q)) : ME g u pc lv (a1 :: .ref 3 :: st) h Q := m_callV (As := [a1]) (n := 1) (ci := 8) (k := 3) (q := (RX8, TX8, 8)) hd (by rw [hu]; exact lk_X10_179) tw_124 tw_125 rfl rfl (by decide) (by decide) rfl hK hst hM
set_option maxRecDepth 100000 in
theorem pf_X10_128 {g : gT} {u : uT} {pc : Nat} {lv st : List Value} {h : mh_T} {Q : Option Value → mh_T → Prop} {v : Int32} (hu : u.1 = RX10) (hd : decode u.2.1 pc = .ok (.putfield 128, 3)) (kk : ME g u (pc + 3) lv st (wI h 0 11 v) Q) : ME g u pc lv (.int v :: .ref 0 :: st) h Q := m_putI (ty := .int) (ci := 10) (k := 0) (j := 11) (q := (RX10, TX10, 14)) (ref := "NotAtOnce") hd rfl (by decide) (by decide) rfl rfl tinX10 tgX10 (by rw [hu]; exact tw_492) rfl tyX10 tyX10_ok nmX10 rfl (by decide +kernel) rfl rfl rfl kk
set_option maxRecDepth 100000 in
theorem gf_X10_34 {g : gT} {u : uT} {pc : Nat} {lv st : List Value} {h : mh_T} {Q : Option Value → mh_T → Prop} (hu : u.1 = RX10) (hd : decode u.2.1 pc = .ok (.getfield 34, 3)) (kk : ME g u (pc + 3) lv (.ref 4 :: st) h Q) : ME g u pc lv (.ref 0 :: st) h Q := m_getR (k' := 4) (ci := 10) (k := 0) (j := 3) (q := (RX10, TX10, 14)) (ref := "NotAtOnce") hd rfl (by decide) (by decide) rfl rfl tinX10 tgX10 (by rw [hu]; exact tw_548) rfl rfl rfl (by decide) kk
set_option maxRecDepth 100000 in
theorem lk_X10_182 : mLk RX10 182 yX7_number uX7_number 0 := ⟨tw_549, tw_550, tw_104, by decide +kernel, Nat.le_of_ble_eq_true rfl⟩
set_option maxRecDepth 100000 in
theorem cl_X10_182 {g : gT} {u : uT} {pc : Nat} {lv st : List Value} {h : mh_T} {Q : Option Value → mh_T → Prop} (hu : u.1 = RX10) (hK : 4 < u.2.2.2.2) (hd : decode u.2.1 pc = .ok (.invokevirtual 182, 3)) (hst : (st.map fun v => v.category).sum ≤ 8) (hM : MC g yX7_number uX7_number [.ref 4] h (fun v h' => ME g u (pc + 3) lv (v.toList ++ st) h' Q)) : ME g u pc lv (.ref 4 :: st) h Q := m_callV (As := []) (n := 0) (ci := 7) (k := 4) (q := (RX7, TX7, 1)) hd (by rw [hu]; exact lk_X10_182) tw_551 tw_552 rfl rfl (by decide) (by decide) rfl hK hst hM
set_option maxRecDepth 100000 in
theorem lk_X10_185 : mLk RX10 185 yX7_ringAt uX7_ringAt 1 := ⟨tw_553, tw_554, tw_104, by decide +kernel, Nat.le_of_ble_eq_true rfl⟩
set_option maxRecDepth 100000 in
theorem cl_X10_185 {g : gT} {u : uT} {pc : Nat} {lv st : List Value} {h : mh_T} {Q : Option Value → mh_T → Prop} {a1 : Value} (hu : u.1 = RX10) (hK : 4 < u.2.2.2.2) (hd : decode u.2.1 pc = .ok (.invokevirtual 185, 3)) (hst : (st.map fun v => v.category).sum ≤ 8) (hM : MC g yX7_ringAt uX7_ringAt [.ref 4, a1] h (fun v h' => ME g u (pc + 3) lv (v.toList ++ st) h' Q)) : ME g u pc lv (a1 :: .ref 4 :: st) h Q := m_callV (As := [a1]) (n := 1) (ci := 7) (k := 4) (q := (RX7, TX7, 1)) hd (by rw [hu]; exact lk_X10_185) tw_555 tw_556 rfl rfl (by decide) (by decide) rfl hK hst hM
set_option maxRecDepth 100000 in
theorem lk_X10_188 : mLk RX10 188 yX7_isRing uX7_isRing 1 := ⟨tw_117, tw_557, tw_104, by decide +kernel, Nat.le_of_ble_eq_true rfl⟩
set_option maxRecDepth 100000 in
theorem cl_X10_188 {g : gT} {u : uT} {pc : Nat} {lv st : List Value} {h : mh_T} {Q : Option Value → mh_T → Prop} {a1 : Value} (hu : u.1 = RX10) (hK : 3 < u.2.2.2.2) (hd : decode u.2.1 pc = .ok (.invokevirtual 188, 3)) (hst : (st.map fun v => v.category).sum ≤ 8) (hM : MC g yX7_isRing uX7_isRing [.ref 4, a1] h (fun v h' => ME g u (pc + 3) lv (v.toList ++ st) h' Q)) : ME g u pc lv (a1 :: .ref 4 :: st) h Q := m_callV (As := [a1]) (n := 1) (ci := 7) (k := 4) (q := (RX7, TX7, 1)) hd (by rw [hu]; exact lk_X10_188) tw_119 tw_120 rfl rfl (by decide) (by decide) rfl hK hst hM
set_option maxRecDepth 100000 in
theorem lk_X10_191 : mLk RX10 191 yX7_surplus uX7_surplus 1 := ⟨tw_133, tw_558, tw_104, by decide +kernel, Nat.le_of_ble_eq_true rfl⟩
set_option maxRecDepth 100000 in
theorem cl_X10_191 {g : gT} {u : uT} {pc : Nat} {lv st : List Value} {h : mh_T} {Q : Option Value → mh_T → Prop} {a1 : Value} (hu : u.1 = RX10) (hK : 2 < u.2.2.2.2) (hd : decode u.2.1 pc = .ok (.invokevirtual 191, 3)) (hst : (st.map fun v => v.category).sum ≤ 8) (hM : MC g yX7_surplus uX7_surplus [.ref 4, a1] h (fun v h' => ME g u (pc + 3) lv (v.toList ++ st) h' Q)) : ME g u pc lv (a1 :: .ref 4 :: st) h Q := m_callV (As := [a1]) (n := 1) (ci := 7) (k := 4) (q := (RX7, TX7, 1)) hd (by rw [hu]; exact lk_X10_191) tw_135 tw_136 rfl rfl (by decide) (by decide) rfl hK hst hM
set_option maxRecDepth 100000 in
theorem lk_X10_194 : mLk RX10 194 yX7_greatest uX7_greatest 0 := ⟨tw_559, tw_560, tw_104, by decide +kernel, Nat.le_of_ble_eq_true rfl⟩
set_option maxRecDepth 100000 in
theorem cl_X10_194 {g : gT} {u : uT} {pc : Nat} {lv st : List Value} {h : mh_T} {Q : Option Value → mh_T → Prop} (hu : u.1 = RX10) (hK : 4 < u.2.2.2.2) (hd : decode u.2.1 pc = .ok (.invokevirtual 194, 3)) (hst : (st.map fun v => v.category).sum ≤ 8) (hM : MC g yX7_greatest uX7_greatest [.ref 4] h (fun v h' => ME g u (pc + 3) lv (v.toList ++ st) h' Q)) : ME g u pc lv (.ref 4 :: st) h Q := m_callV (As := []) (n := 0) (ci := 7) (k := 4) (q := (RX7, TX7, 1)) hd (by rw [hu]; exact lk_X10_194) tw_561 tw_562 rfl rfl (by decide) (by decide) rfl hK hst hM
set_option maxRecDepth 100000 in
theorem gf_X10_200 {g : gT} {u : uT} {pc : Nat} {lv st : List Value} {h : mh_T} {Q : Option Value → mh_T → Prop} (hu : u.1 = RX10) (hd : decode u.2.1 pc = .ok (.getfield 200, 3)) (kk : ME g u (pc + 3) lv (.ref 27 :: st) h Q) : ME g u pc lv (.ref 3 :: st) h Q := m_getR (k' := 27) (ci := 8) (k := 3) (j := 7) (q := (RX8, TX8, 8)) (ref := "NotAtOnce$Table") hd rfl (by decide) (by decide) rfl rfl tinX8 tgX8 (by rw [hu]; exact tw_563) rfl rfl rfl (by decide) kk
set_option maxRecDepth 100000 in
theorem lk_X10_197 : mLk RX10 197 yX10_denied uX10_denied 1 := ⟨tw_564, tw_565, tw_201, by decide +kernel, Nat.le_of_ble_eq_true rfl⟩
set_option maxRecDepth 100000 in
theorem cl_X10_197 {g : gT} {u : uT} {pc : Nat} {lv st : List Value} {h : mh_T} {Q : Option Value → mh_T → Prop} {a1 : Value} (hu : u.1 = RX10) (hK : 1 < u.2.2.2.2) (hd : decode u.2.1 pc = .ok (.invokevirtual 197, 3)) (hst : (st.map fun v => v.category).sum ≤ 8) (hM : MC g yX10_denied uX10_denied [.ref 0, a1] h (fun v h' => ME g u (pc + 3) lv (v.toList ++ st) h' Q)) : ME g u pc lv (a1 :: .ref 0 :: st) h Q := m_callV (As := [a1]) (n := 1) (ci := 10) (k := 0) (q := (RX10, TX10, 14)) hd (by rw [hu]; exact lk_X10_197) tw_566 tw_567 rfl rfl (by decide) (by decide) rfl hK hst hM
set_option maxRecDepth 100000 in
theorem lk_X10_203 : mLk RX10 203 yX10_done uX10_done 0 := ⟨tw_568, tw_569, tw_201, by decide +kernel, Nat.le_of_ble_eq_true rfl⟩
set_option maxRecDepth 100000 in
theorem cl_X10_203 {g : gT} {u : uT} {pc : Nat} {lv st : List Value} {h : mh_T} {Q : Option Value → mh_T → Prop} (hu : u.1 = RX10) (hK : 1 < u.2.2.2.2) (hd : decode u.2.1 pc = .ok (.invokevirtual 203, 3)) (hst : (st.map fun v => v.category).sum ≤ 8) (hM : MC g yX10_done uX10_done [.ref 0] h (fun v h' => ME g u (pc + 3) lv (v.toList ++ st) h' Q)) : ME g u pc lv (.ref 0 :: st) h Q := m_callV (As := []) (n := 0) (ci := 10) (k := 0) (q := (RX10, TX10, 14)) hd (by rw [hu]; exact lk_X10_203) tw_570 tw_571 rfl rfl (by decide) (by decide) rfl hK hst hM
set_option maxRecDepth 100000 in
theorem lk_X10_206 : mLk RX10 206 yX8_winnings uX8_winnings 0 := ⟨tw_572, tw_573, tw_46, by decide +kernel, Nat.le_of_ble_eq_true rfl⟩
set_option maxRecDepth 100000 in
theorem cl_X10_206 {g : gT} {u : uT} {pc : Nat} {lv st : List Value} {h : mh_T} {Q : Option Value → mh_T → Prop} (hu : u.1 = RX10) (hK : 1 < u.2.2.2.2) (hd : decode u.2.1 pc = .ok (.invokevirtual 206, 3)) (hst : (st.map fun v => v.category).sum ≤ 8) (hM : MC g yX8_winnings uX8_winnings [.ref 3] h (fun v h' => ME g u (pc + 3) lv (v.toList ++ st) h' Q)) : ME g u pc lv (.ref 3 :: st) h Q := m_callV (As := []) (n := 0) (ci := 8) (k := 3) (q := (RX8, TX8, 8)) hd (by rw [hu]; exact lk_X10_206) tw_574 tw_575 rfl rfl (by decide) (by decide) rfl hK hst hM
set_option maxRecDepth 100000 in
theorem lk_X10_209 : mLk RX10 209 yX8_leastPaid uX8_leastPaid 0 := ⟨tw_576, tw_577, tw_46, by decide +kernel, Nat.le_of_ble_eq_true rfl⟩
set_option maxRecDepth 100000 in
theorem cl_X10_209 {g : gT} {u : uT} {pc : Nat} {lv st : List Value} {h : mh_T} {Q : Option Value → mh_T → Prop} (hu : u.1 = RX10) (hK : 3 < u.2.2.2.2) (hd : decode u.2.1 pc = .ok (.invokevirtual 209, 3)) (hst : (st.map fun v => v.category).sum ≤ 8) (hM : MC g yX8_leastPaid uX8_leastPaid [.ref 3] h (fun v h' => ME g u (pc + 3) lv (v.toList ++ st) h' Q)) : ME g u pc lv (.ref 3 :: st) h Q := m_callV (As := []) (n := 0) (ci := 8) (k := 3) (q := (RX8, TX8, 8)) hd (by rw [hu]; exact lk_X10_209) tw_578 tw_579 rfl rfl (by decide) (by decide) rfl hK hst hM
set_option maxRecDepth 100000 in
theorem lk_X10_212 : mLk RX10 212 yX8_pay uX8_pay 1 := ⟨tw_74, tw_580, tw_46, by decide +kernel, Nat.le_of_ble_eq_true rfl⟩
set_option maxRecDepth 100000 in
theorem cl_X10_212 {g : gT} {u : uT} {pc : Nat} {lv st : List Value} {h : mh_T} {Q : Option Value → mh_T → Prop} {a1 : Value} (hu : u.1 = RX10) (hK : 2 < u.2.2.2.2) (hd : decode u.2.1 pc = .ok (.invokevirtual 212, 3)) (hst : (st.map fun v => v.category).sum ≤ 8) (hM : MC g yX8_pay uX8_pay [.ref 3, a1] h (fun v h' => ME g u (pc + 3) lv (v.toList ++ st) h' Q)) : ME g u pc lv (a1 :: .ref 3 :: st) h Q := m_callV (As := [a1]) (n := 1) (ci := 8) (k := 3) (q := (RX8, TX8, 8)) hd (by rw [hu]; exact lk_X10_212) tw_76 tw_77 rfl rfl (by decide) (by decide) rfl hK hst hM
set_option maxRecDepth 100000 in
theorem gf_X10_215 {g : gT} {u : uT} {pc : Nat} {lv st : List Value} {h : mh_T} {Q : Option Value → mh_T → Prop} (hu : u.1 = RX10) (hd : decode u.2.1 pc = .ok (.getfield 215, 3)) (kk : ME g u (pc + 3) lv (.int (mI h 3 0) :: st) h Q) : ME g u pc lv (.ref 3 :: st) h Q := m_getI (ci := 8) (k := 3) (j := 0) (q := (RX8, TX8, 8)) (ref := "NotAtOnce$Table") hd rfl (by decide) (by decide) rfl rfl tinX8 tgX8 (by rw [hu]; exact tw_581) rfl rfl kk
set_option maxRecDepth 100000 in
theorem lk_X10_218 : mLk RX10 218 yX2_set uX2_set 2 := ⟨tw_260, tw_582, tw_92, by decide +kernel, Nat.le_of_ble_eq_true rfl⟩
set_option maxRecDepth 100000 in
theorem cl_X10_218 {g : gT} {u : uT} {pc : Nat} {lv st : List Value} {h : mh_T} {Q : Option Value → mh_T → Prop} {a1 a2 : Value} (hu : u.1 = RX10) (hK : 2 < u.2.2.2.2) (hd : decode u.2.1 pc = .ok (.invokevirtual 218, 3)) (hst : (st.map fun v => v.category).sum ≤ 8) (hM : MC g yX2_set uX2_set [.ref 5, a1, a2] h (fun v h' => ME g u (pc + 3) lv (v.toList ++ st) h' Q)) : ME g u pc lv (a2 :: a1 :: .ref 5 :: st) h Q := m_callV (As := [a1, a2]) (n := 2) (ci := 2) (k := 5) (q := (RX2, TX2, 2)) hd (by rw [hu]; exact lk_X10_218) tw_262 tw_263 rfl rfl (by decide) (by decide) rfl hK hst hM
set_option maxRecDepth 100000 in
theorem gf_X10_222 {g : gT} {u : uT} {pc : Nat} {lv st : List Value} {h : mh_T} {Q : Option Value → mh_T → Prop} (hu : u.1 = RX10) (hd : decode u.2.1 pc = .ok (.getfield 222, 3)) (kk : ME g u (pc + 3) lv (.int (mI h 7 2) :: st) h Q) : ME g u pc lv (.ref 7 :: st) h Q := m_getI (ci := 5) (k := 7) (j := 2) (q := (RX5, TX5, 6)) (ref := "NotAtOnce$Parities") hd rfl (by decide) (by decide) rfl rfl tinX5 tgX5 (by rw [hu]; exact tw_583) rfl rfl kk
set_option maxRecDepth 100000 in
theorem gf_X10_225 {g : gT} {u : uT} {pc : Nat} {lv st : List Value} {h : mh_T} {Q : Option Value → mh_T → Prop} (hu : u.1 = RX10) (hd : decode u.2.1 pc = .ok (.getfield 225, 3)) (kk : ME g u (pc + 3) lv (.int (mI h 7 0) :: st) h Q) : ME g u pc lv (.ref 7 :: st) h Q := m_getI (ci := 5) (k := 7) (j := 0) (q := (RX5, TX5, 6)) (ref := "NotAtOnce$Parities") hd rfl (by decide) (by decide) rfl rfl tinX5 tgX5 (by rw [hu]; exact tw_584) rfl rfl kk
set_option maxRecDepth 100000 in
theorem lk_X10_228 : mLk RX10 228 yX5_valueOf uX5_valueOf 1 := ⟨tw_585, tw_586, tw_147, by decide +kernel, Nat.le_of_ble_eq_true rfl⟩
set_option maxRecDepth 100000 in
theorem cl_X10_228 {g : gT} {u : uT} {pc : Nat} {lv st : List Value} {h : mh_T} {Q : Option Value → mh_T → Prop} {a1 : Value} (hu : u.1 = RX10) (hK : 1 < u.2.2.2.2) (hd : decode u.2.1 pc = .ok (.invokevirtual 228, 3)) (hst : (st.map fun v => v.category).sum ≤ 8) (hM : MC g yX5_valueOf uX5_valueOf [.ref 7, a1] h (fun v h' => ME g u (pc + 3) lv (v.toList ++ st) h' Q)) : ME g u pc lv (a1 :: .ref 7 :: st) h Q := m_callV (As := [a1]) (n := 1) (ci := 5) (k := 7) (q := (RX5, TX5, 6)) hd (by rw [hu]; exact lk_X10_228) tw_587 tw_588 rfl rfl (by decide) (by decide) rfl hK hst hM
set_option maxRecDepth 100000 in
theorem lk_X10_231 : mLk RX10 231 yX5_leastBroken uX5_leastBroken 0 := ⟨tw_589, tw_590, tw_147, by decide +kernel, Nat.le_of_ble_eq_true rfl⟩
set_option maxRecDepth 100000 in
theorem cl_X10_231 {g : gT} {u : uT} {pc : Nat} {lv st : List Value} {h : mh_T} {Q : Option Value → mh_T → Prop} (hu : u.1 = RX10) (hK : 2 < u.2.2.2.2) (hd : decode u.2.1 pc = .ok (.invokevirtual 231, 3)) (hst : (st.map fun v => v.category).sum ≤ 8) (hM : MC g yX5_leastBroken uX5_leastBroken [.ref 7] h (fun v h' => ME g u (pc + 3) lv (v.toList ++ st) h' Q)) : ME g u pc lv (.ref 7 :: st) h Q := m_callV (As := []) (n := 0) (ci := 5) (k := 7) (q := (RX5, TX5, 6)) hd (by rw [hu]; exact lk_X10_231) tw_591 tw_592 rfl rfl (by decide) (by decide) rfl hK hst hM
set_option maxRecDepth 100000 in
theorem gf_X10_234 {g : gT} {u : uT} {pc : Nat} {lv st : List Value} {h : mh_T} {Q : Option Value → mh_T → Prop} (hu : u.1 = RX10) (hd : decode u.2.1 pc = .ok (.getfield 234, 3)) (kk : ME g u (pc + 3) lv (.int (mI h 7 1) :: st) h Q) : ME g u pc lv (.ref 7 :: st) h Q := m_getI (ci := 5) (k := 7) (j := 1) (q := (RX5, TX5, 6)) (ref := "NotAtOnce$Parities") hd rfl (by decide) (by decide) rfl rfl tinX5 tgX5 (by rw [hu]; exact tw_593) rfl rfl kk
set_option maxRecDepth 100000 in
theorem lk_X10_237 : mLk RX10 237 yX5_holds uX5_holds 1 := ⟨tw_594, tw_595, tw_147, by decide +kernel, Nat.le_of_ble_eq_true rfl⟩
set_option maxRecDepth 100000 in
theorem cl_X10_237 {g : gT} {u : uT} {pc : Nat} {lv st : List Value} {h : mh_T} {Q : Option Value → mh_T → Prop} {a1 : Value} (hu : u.1 = RX10) (hK : 1 < u.2.2.2.2) (hd : decode u.2.1 pc = .ok (.invokevirtual 237, 3)) (hst : (st.map fun v => v.category).sum ≤ 8) (hM : MC g yX5_holds uX5_holds [.ref 7, a1] h (fun v h' => ME g u (pc + 3) lv (v.toList ++ st) h' Q)) : ME g u pc lv (a1 :: .ref 7 :: st) h Q := m_callV (As := [a1]) (n := 1) (ci := 5) (k := 7) (q := (RX5, TX5, 6)) hd (by rw [hu]; exact lk_X10_237) tw_596 tw_597 rfl rfl (by decide) (by decide) rfl hK hst hM
set_option maxRecDepth 100000 in
theorem lk_X10_240 : mLk RX10 240 yX5_mostHeld uX5_mostHeld 0 := ⟨tw_598, tw_599, tw_147, by decide +kernel, Nat.le_of_ble_eq_true rfl⟩
set_option maxRecDepth 100000 in
theorem cl_X10_240 {g : gT} {u : uT} {pc : Nat} {lv st : List Value} {h : mh_T} {Q : Option Value → mh_T → Prop} (hu : u.1 = RX10) (hK : 2 < u.2.2.2.2) (hd : decode u.2.1 pc = .ok (.invokevirtual 240, 3)) (hst : (st.map fun v => v.category).sum ≤ 8) (hM : MC g yX5_mostHeld uX5_mostHeld [.ref 7] h (fun v h' => ME g u (pc + 3) lv (v.toList ++ st) h' Q)) : ME g u pc lv (.ref 7 :: st) h Q := m_callV (As := []) (n := 0) (ci := 5) (k := 7) (q := (RX5, TX5, 6)) hd (by rw [hu]; exact lk_X10_240) tw_600 tw_601 rfl rfl (by decide) (by decide) rfl hK hst hM
set_option maxRecDepth 100000 in
theorem gf_X10_246 {g : gT} {u : uT} {pc : Nat} {lv st : List Value} {h : mh_T} {Q : Option Value → mh_T → Prop} (hu : u.1 = RX10) (hd : decode u.2.1 pc = .ok (.getfield 246, 3)) (kk : ME g u (pc + 3) lv (.ref 32 :: st) h Q) : ME g u pc lv (.ref 8 :: st) h Q := m_getR (k' := 32) (ci := 3) (k := 8) (j := 6) (q := (RX3, TX3, 12)) (ref := "NotAtOnce$Frames") hd rfl (by decide) (by decide) rfl rfl tinX3 tgX3 (by rw [hu]; exact tw_602) rfl rfl rfl (by decide) kk
set_option maxRecDepth 100000 in
theorem lk_X10_243 : mLk RX10 243 yX3_hasRay uX3_hasRay 1 := ⟨tw_603, tw_604, tw_167, by decide +kernel, Nat.le_of_ble_eq_true rfl⟩
set_option maxRecDepth 100000 in
theorem cl_X10_243 {g : gT} {u : uT} {pc : Nat} {lv st : List Value} {h : mh_T} {Q : Option Value → mh_T → Prop} {a1 : Value} (hu : u.1 = RX10) (hK : 1 < u.2.2.2.2) (hd : decode u.2.1 pc = .ok (.invokevirtual 243, 3)) (hst : (st.map fun v => v.category).sum ≤ 8) (hM : MC g yX3_hasRay uX3_hasRay [.ref 8, a1] h (fun v h' => ME g u (pc + 3) lv (v.toList ++ st) h' Q)) : ME g u pc lv (a1 :: .ref 8 :: st) h Q := m_callV (As := [a1]) (n := 1) (ci := 3) (k := 8) (q := (RX3, TX3, 12)) hd (by rw [hu]; exact lk_X10_243) tw_605 tw_606 rfl rfl (by decide) (by decide) rfl hK hst hM
set_option maxRecDepth 100000 in
theorem gf_X10_249 {g : gT} {u : uT} {pc : Nat} {lv st : List Value} {h : mh_T} {Q : Option Value → mh_T → Prop} (hu : u.1 = RX10) (hd : decode u.2.1 pc = .ok (.getfield 249, 3)) (kk : ME g u (pc + 3) lv (.int (mI h 8 1) :: st) h Q) : ME g u pc lv (.ref 8 :: st) h Q := m_getI (ci := 3) (k := 8) (j := 1) (q := (RX3, TX3, 12)) (ref := "NotAtOnce$Frames") hd rfl (by decide) (by decide) rfl rfl tinX3 tgX3 (by rw [hu]; exact tw_607) rfl rfl kk
set_option maxRecDepth 100000 in
theorem gf_X10_255 {g : gT} {u : uT} {pc : Nat} {lv st : List Value} {h : mh_T} {Q : Option Value → mh_T → Prop} (hu : u.1 = RX10) (hd : decode u.2.1 pc = .ok (.getfield 255, 3)) (kk : ME g u (pc + 3) lv (.int (mI h 8 2) :: st) h Q) : ME g u pc lv (.ref 8 :: st) h Q := m_getI (ci := 3) (k := 8) (j := 2) (q := (RX3, TX3, 12)) (ref := "NotAtOnce$Frames") hd rfl (by decide) (by decide) rfl rfl tinX3 tgX3 (by rw [hu]; exact tw_608) rfl rfl kk
set_option maxRecDepth 100000 in
theorem lk_X10_252 : mLk RX10 252 yX3_work uX3_work 0 := ⟨tw_609, tw_610, tw_167, by decide +kernel, Nat.le_of_ble_eq_true rfl⟩
set_option maxRecDepth 100000 in
theorem cl_X10_252 {g : gT} {u : uT} {pc : Nat} {lv st : List Value} {h : mh_T} {Q : Option Value → mh_T → Prop} (hu : u.1 = RX10) (hK : 32 < u.2.2.2.2) (hd : decode u.2.1 pc = .ok (.invokevirtual 252, 3)) (hst : (st.map fun v => v.category).sum ≤ 8) (hM : MC g yX3_work uX3_work [.ref 8] h (fun v h' => ME g u (pc + 3) lv (v.toList ++ st) h' Q)) : ME g u pc lv (.ref 8 :: st) h Q := m_callV (As := []) (n := 0) (ci := 3) (k := 8) (q := (RX3, TX3, 12)) hd (by rw [hu]; exact lk_X10_252) tw_611 tw_612 rfl rfl (by decide) (by decide) rfl hK hst hM
set_option maxRecDepth 100000 in
theorem gf_X10_258 {g : gT} {u : uT} {pc : Nat} {lv st : List Value} {h : mh_T} {Q : Option Value → mh_T → Prop} (hu : u.1 = RX10) (hd : decode u.2.1 pc = .ok (.getfield 258, 3)) (kk : ME g u (pc + 3) lv (.int (mI h 8 3) :: st) h Q) : ME g u pc lv (.ref 8 :: st) h Q := m_getI (ci := 3) (k := 8) (j := 3) (q := (RX3, TX3, 12)) (ref := "NotAtOnce$Frames") hd rfl (by decide) (by decide) rfl rfl tinX3 tgX3 (by rw [hu]; exact tw_613) rfl rfl kk
set_option maxRecDepth 100000 in
theorem gf_X10_261 {g : gT} {u : uT} {pc : Nat} {lv st : List Value} {h : mh_T} {Q : Option Value → mh_T → Prop} (hu : u.1 = RX10) (hd : decode u.2.1 pc = .ok (.getfield 261, 3)) (kk : ME g u (pc + 3) lv (.int (mI h 8 4) :: st) h Q) : ME g u pc lv (.ref 8 :: st) h Q := m_getI (ci := 3) (k := 8) (j := 4) (q := (RX3, TX3, 12)) (ref := "NotAtOnce$Frames") hd rfl (by decide) (by decide) rfl rfl tinX3 tgX3 (by rw [hu]; exact tw_614) rfl rfl kk
set_option maxRecDepth 100000 in
theorem gf_X10_264 {g : gT} {u : uT} {pc : Nat} {lv st : List Value} {h : mh_T} {Q : Option Value → mh_T → Prop} (hu : u.1 = RX10) (hd : decode u.2.1 pc = .ok (.getfield 264, 3)) (kk : ME g u (pc + 3) lv (.int (mI h 8 5) :: st) h Q) : ME g u pc lv (.ref 8 :: st) h Q := m_getI (ci := 3) (k := 8) (j := 5) (q := (RX3, TX3, 12)) (ref := "NotAtOnce$Frames") hd rfl (by decide) (by decide) rfl rfl tinX3 tgX3 (by rw [hu]; exact tw_615) rfl rfl kk
set_option maxRecDepth 100000 in
theorem gf_X10_268 {g : gT} {u : uT} {pc : Nat} {lv st : List Value} {h : mh_T} {Q : Option Value → mh_T → Prop} (hu : u.1 = RX10) (hd : decode u.2.1 pc = .ok (.getfield 268, 3)) (kk : ME g u (pc + 3) lv (.int (mI h 9 1) :: st) h Q) : ME g u pc lv (.ref 9 :: st) h Q := m_getI (ci := 9) (k := 9) (j := 1) (q := (RX9, TX9, 10)) (ref := "NotAtOnce$Telling") hd rfl (by decide) (by decide) rfl rfl tinX9 tgX9 (by rw [hu]; exact tw_616) rfl rfl kk
set_option maxRecDepth 100000 in
theorem lk_X10_267 : mLk RX10 267 yX9_work uX9_work 0 := ⟨tw_617, tw_618, tw_218, by decide +kernel, Nat.le_of_ble_eq_true rfl⟩
set_option maxRecDepth 100000 in
theorem cl_X10_267 {g : gT} {u : uT} {pc : Nat} {lv st : List Value} {h : mh_T} {Q : Option Value → mh_T → Prop} (hu : u.1 = RX10) (hK : 71 < u.2.2.2.2) (hd : decode u.2.1 pc = .ok (.invokevirtual 267, 3)) (hst : (st.map fun v => v.category).sum ≤ 8) (hM : MC g yX9_work uX9_work [.ref 9] h (fun v h' => ME g u (pc + 3) lv (v.toList ++ st) h' Q)) : ME g u pc lv (.ref 9 :: st) h Q := m_callV (As := []) (n := 0) (ci := 9) (k := 9) (q := (RX9, TX9, 10)) hd (by rw [hu]; exact lk_X10_267) tw_619 tw_620 rfl rfl (by decide) (by decide) rfl hK hst hM
set_option maxRecDepth 100000 in
theorem lk_X10_271 : mLk RX10 271 yX9_entry uX9_entry 3 := ⟨tw_621, tw_622, tw_218, by decide +kernel, Nat.le_of_ble_eq_true rfl⟩
set_option maxRecDepth 100000 in
theorem cl_X10_271 {g : gT} {u : uT} {pc : Nat} {lv st : List Value} {h : mh_T} {Q : Option Value → mh_T → Prop} {a1 a2 a3 : Value} (hu : u.1 = RX10) (hK : 1 < u.2.2.2.2) (hd : decode u.2.1 pc = .ok (.invokevirtual 271, 3)) (hst : (st.map fun v => v.category).sum ≤ 8) (hM : MC g yX9_entry uX9_entry [.ref 9, a1, a2, a3] h (fun v h' => ME g u (pc + 3) lv (v.toList ++ st) h' Q)) : ME g u pc lv (a3 :: a2 :: a1 :: .ref 9 :: st) h Q := m_callV (As := [a1, a2, a3]) (n := 3) (ci := 9) (k := 9) (q := (RX9, TX9, 10)) hd (by rw [hu]; exact lk_X10_271) tw_623 tw_624 rfl rfl (by decide) (by decide) rfl hK hst hM
set_option maxRecDepth 100000 in
theorem lk_X10_275 : mLk RX10 275 yX4_begin uX4_begin 2 := ⟨tw_625, tw_626, tw_240, by decide +kernel, Nat.le_of_ble_eq_true rfl⟩
set_option maxRecDepth 100000 in
theorem cl_X10_275 {g : gT} {u : uT} {pc : Nat} {lv st : List Value} {h : mh_T} {Q : Option Value → mh_T → Prop} {a1 a2 : Value} (hu : u.1 = RX10) (hK : 2 < u.2.2.2.2) (hd : decode u.2.1 pc = .ok (.invokevirtual 275, 3)) (hst : (st.map fun v => v.category).sum ≤ 8) (hM : MC g yX4_begin uX4_begin [.ref 10, a1, a2] h (fun v h' => ME g u (pc + 3) lv (v.toList ++ st) h' Q)) : ME g u pc lv (a2 :: a1 :: .ref 10 :: st) h Q := m_callV (As := [a1, a2]) (n := 2) (ci := 4) (k := 10) (q := (RX4, TX4, 7)) hd (by rw [hu]; exact lk_X10_275) tw_627 tw_628 rfl rfl (by decide) (by decide) rfl hK hst hM
set_option maxRecDepth 100000 in
theorem lk_X10_279 : mLk RX10 279 yX8_turn uX8_turn 1 := ⟨tw_629, tw_630, tw_46, by decide +kernel, Nat.le_of_ble_eq_true rfl⟩
set_option maxRecDepth 100000 in
theorem cl_X10_279 {g : gT} {u : uT} {pc : Nat} {lv st : List Value} {h : mh_T} {Q : Option Value → mh_T → Prop} {a1 : Value} (hu : u.1 = RX10) (hK : 2 < u.2.2.2.2) (hd : decode u.2.1 pc = .ok (.invokevirtual 279, 3)) (hst : (st.map fun v => v.category).sum ≤ 8) (hM : MC g yX8_turn uX8_turn [.ref 3, a1] h (fun v h' => ME g u (pc + 3) lv (v.toList ++ st) h' Q)) : ME g u pc lv (a1 :: .ref 3 :: st) h Q := m_callV (As := [a1]) (n := 1) (ci := 8) (k := 3) (q := (RX8, TX8, 8)) hd (by rw [hu]; exact lk_X10_279) tw_631 tw_632 rfl rfl (by decide) (by decide) rfl hK hst hM
set_option maxRecDepth 100000 in
theorem lk_X10_282 : mLk RX10 282 yX8_hasSet uX8_hasSet 1 := ⟨tw_50, tw_633, tw_46, by decide +kernel, Nat.le_of_ble_eq_true rfl⟩
set_option maxRecDepth 100000 in
theorem cl_X10_282 {g : gT} {u : uT} {pc : Nat} {lv st : List Value} {h : mh_T} {Q : Option Value → mh_T → Prop} {a1 : Value} (hu : u.1 = RX10) (hK : 1 < u.2.2.2.2) (hd : decode u.2.1 pc = .ok (.invokevirtual 282, 3)) (hst : (st.map fun v => v.category).sum ≤ 8) (hM : MC g yX8_hasSet uX8_hasSet [.ref 3, a1] h (fun v h' => ME g u (pc + 3) lv (v.toList ++ st) h' Q)) : ME g u pc lv (a1 :: .ref 3 :: st) h Q := m_callV (As := [a1]) (n := 1) (ci := 8) (k := 3) (q := (RX8, TX8, 8)) hd (by rw [hu]; exact lk_X10_282) tw_52 tw_53 rfl rfl (by decide) (by decide) rfl hK hst hM
set_option maxRecDepth 100000 in
theorem lk_X10_285 : mLk RX10 285 yX8_remove uX8_remove 1 := ⟨tw_86, tw_634, tw_46, by decide +kernel, Nat.le_of_ble_eq_true rfl⟩
set_option maxRecDepth 100000 in
theorem cl_X10_285 {g : gT} {u : uT} {pc : Nat} {lv st : List Value} {h : mh_T} {Q : Option Value → mh_T → Prop} {a1 : Value} (hu : u.1 = RX10) (hK : 1 < u.2.2.2.2) (hd : decode u.2.1 pc = .ok (.invokevirtual 285, 3)) (hst : (st.map fun v => v.category).sum ≤ 8) (hM : MC g yX8_remove uX8_remove [.ref 3, a1] h (fun v h' => ME g u (pc + 3) lv (v.toList ++ st) h' Q)) : ME g u pc lv (a1 :: .ref 3 :: st) h Q := m_callV (As := [a1]) (n := 1) (ci := 8) (k := 3) (q := (RX8, TX8, 8)) hd (by rw [hu]; exact lk_X10_285) tw_88 tw_89 rfl rfl (by decide) (by decide) rfl hK hst hM
set_option maxRecDepth 100000 in
theorem lk_X10_288 : mLk RX10 288 yX8_isLookedAt uX8_isLookedAt 1 := ⟨tw_635, tw_636, tw_46, by decide +kernel, Nat.le_of_ble_eq_true rfl⟩
set_option maxRecDepth 100000 in
theorem cl_X10_288 {g : gT} {u : uT} {pc : Nat} {lv st : List Value} {h : mh_T} {Q : Option Value → mh_T → Prop} {a1 : Value} (hu : u.1 = RX10) (hK : 1 < u.2.2.2.2) (hd : decode u.2.1 pc = .ok (.invokevirtual 288, 3)) (hst : (st.map fun v => v.category).sum ≤ 8) (hM : MC g yX8_isLookedAt uX8_isLookedAt [.ref 3, a1] h (fun v h' => ME g u (pc + 3) lv (v.toList ++ st) h' Q)) : ME g u pc lv (a1 :: .ref 3 :: st) h Q := m_callV (As := [a1]) (n := 1) (ci := 8) (k := 3) (q := (RX8, TX8, 8)) hd (by rw [hu]; exact lk_X10_288) tw_637 tw_638 rfl rfl (by decide) (by decide) rfl hK hst hM
set_option maxRecDepth 100000 in
theorem lk_X10_291 : mLk RX10 291 yX8_merge uX8_merge 1 := ⟨tw_639, tw_640, tw_46, by decide +kernel, Nat.le_of_ble_eq_true rfl⟩
set_option maxRecDepth 100000 in
theorem cl_X10_291 {g : gT} {u : uT} {pc : Nat} {lv st : List Value} {h : mh_T} {Q : Option Value → mh_T → Prop} {a1 : Value} (hu : u.1 = RX10) (hK : 2 < u.2.2.2.2) (hd : decode u.2.1 pc = .ok (.invokevirtual 291, 3)) (hst : (st.map fun v => v.category).sum ≤ 8) (hM : MC g yX8_merge uX8_merge [.ref 3, a1] h (fun v h' => ME g u (pc + 3) lv (v.toList ++ st) h' Q)) : ME g u pc lv (a1 :: .ref 3 :: st) h Q := m_callV (As := [a1]) (n := 1) (ci := 8) (k := 3) (q := (RX8, TX8, 8)) hd (by rw [hu]; exact lk_X10_291) tw_641 tw_642 rfl rfl (by decide) (by decide) rfl hK hst hM
set_option maxRecDepth 100000 in
theorem gf_X10_294 {g : gT} {u : uT} {pc : Nat} {lv st : List Value} {h : mh_T} {Q : Option Value → mh_T → Prop} (hu : u.1 = RX10) (hd : decode u.2.1 pc = .ok (.getfield 294, 3)) (kk : ME g u (pc + 3) lv (.ref 26 :: st) h Q) : ME g u pc lv (.ref 3 :: st) h Q := m_getR (k' := 26) (ci := 8) (k := 3) (j := 6) (q := (RX8, TX8, 8)) (ref := "NotAtOnce$Table") hd rfl (by decide) (by decide) rfl rfl tinX8 tgX8 (by rw [hu]; exact tw_643) rfl rfl rfl (by decide) kk
set_option maxRecDepth 100000 in
theorem lk_X10_297 : mLk RX10 297 yX4_tellMove uX4_tellMove 3 := ⟨tw_644, tw_645, tw_240, by decide +kernel, Nat.le_of_ble_eq_true rfl⟩
set_option maxRecDepth 100000 in
theorem cl_X10_297 {g : gT} {u : uT} {pc : Nat} {lv st : List Value} {h : mh_T} {Q : Option Value → mh_T → Prop} {a1 a2 a3 : Value} (hu : u.1 = RX10) (hK : 1 < u.2.2.2.2) (hd : decode u.2.1 pc = .ok (.invokevirtual 297, 3)) (hst : (st.map fun v => v.category).sum ≤ 8) (hM : MC g yX4_tellMove uX4_tellMove [.ref 10, a1, a2, a3] h (fun v h' => ME g u (pc + 3) lv (v.toList ++ st) h' Q)) : ME g u pc lv (a3 :: a2 :: a1 :: .ref 10 :: st) h Q := m_callV (As := [a1, a2, a3]) (n := 3) (ci := 4) (k := 10) (q := (RX4, TX4, 7)) hd (by rw [hu]; exact lk_X10_297) tw_646 tw_647 rfl rfl (by decide) (by decide) rfl hK hst hM
set_option maxRecDepth 100000 in
theorem lk_X10_301 : mLk RX10 301 yX8_move uX8_move 3 := ⟨tw_648, tw_649, tw_46, by decide +kernel, Nat.le_of_ble_eq_true rfl⟩
set_option maxRecDepth 100000 in
theorem cl_X10_301 {g : gT} {u : uT} {pc : Nat} {lv st : List Value} {h : mh_T} {Q : Option Value → mh_T → Prop} {a1 a2 a3 : Value} (hu : u.1 = RX10) (hK : 1 < u.2.2.2.2) (hd : decode u.2.1 pc = .ok (.invokevirtual 301, 3)) (hst : (st.map fun v => v.category).sum ≤ 8) (hM : MC g yX8_move uX8_move [.ref 3, a1, a2, a3] h (fun v h' => ME g u (pc + 3) lv (v.toList ++ st) h' Q)) : ME g u pc lv (a3 :: a2 :: a1 :: .ref 3 :: st) h Q := m_callV (As := [a1, a2, a3]) (n := 3) (ci := 8) (k := 3) (q := (RX8, TX8, 8)) hd (by rw [hu]; exact lk_X10_301) tw_650 tw_651 rfl rfl (by decide) (by decide) rfl hK hst hM
set_option maxRecDepth 100000 in
theorem lk_X10_304 : mLk RX10 304 yX4_takeBack uX4_takeBack 0 := ⟨tw_652, tw_653, tw_240, by decide +kernel, Nat.le_of_ble_eq_true rfl⟩
set_option maxRecDepth 100000 in
theorem cl_X10_304 {g : gT} {u : uT} {pc : Nat} {lv st : List Value} {h : mh_T} {Q : Option Value → mh_T → Prop} (hu : u.1 = RX10) (hK : 3 < u.2.2.2.2) (hd : decode u.2.1 pc = .ok (.invokevirtual 304, 3)) (hst : (st.map fun v => v.category).sum ≤ 8) (hM : MC g yX4_takeBack uX4_takeBack [.ref 10] h (fun v h' => ME g u (pc + 3) lv (v.toList ++ st) h' Q)) : ME g u pc lv (.ref 10 :: st) h Q := m_callV (As := []) (n := 0) (ci := 4) (k := 10) (q := (RX4, TX4, 7)) hd (by rw [hu]; exact lk_X10_304) tw_654 tw_655 rfl rfl (by decide) (by decide) rfl hK hst hM
set_option maxRecDepth 100000 in
theorem lk_X10_307 : mLk RX10 307 yX4_makeAgain uX4_makeAgain 0 := ⟨tw_656, tw_657, tw_240, by decide +kernel, Nat.le_of_ble_eq_true rfl⟩
set_option maxRecDepth 100000 in
theorem cl_X10_307 {g : gT} {u : uT} {pc : Nat} {lv st : List Value} {h : mh_T} {Q : Option Value → mh_T → Prop} (hu : u.1 = RX10) (hK : 3 < u.2.2.2.2) (hd : decode u.2.1 pc = .ok (.invokevirtual 307, 3)) (hst : (st.map fun v => v.category).sum ≤ 8) (hM : MC g yX4_makeAgain uX4_makeAgain [.ref 10] h (fun v h' => ME g u (pc + 3) lv (v.toList ++ st) h' Q)) : ME g u pc lv (.ref 10 :: st) h Q := m_callV (As := []) (n := 0) (ci := 4) (k := 10) (q := (RX4, TX4, 7)) hd (by rw [hu]; exact lk_X10_307) tw_658 tw_659 rfl rfl (by decide) (by decide) rfl hK hst hM
set_option maxRecDepth 100000 in
theorem gf_X10_310 {g : gT} {u : uT} {pc : Nat} {lv st : List Value} {h : mh_T} {Q : Option Value → mh_T → Prop} (hu : u.1 = RX10) (hd : decode u.2.1 pc = .ok (.getfield 310, 3)) (kk : ME g u (pc + 3) lv (.int (mI h 10 2) :: st) h Q) : ME g u pc lv (.ref 10 :: st) h Q := m_getI (ci := 4) (k := 10) (j := 2) (q := (RX4, TX4, 7)) (ref := "NotAtOnce$History") hd rfl (by decide) (by decide) rfl rfl tinX4 tgX4 (by rw [hu]; exact tw_660) rfl rfl kk
set_option maxRecDepth 100000 in
theorem lk_X10_313 : mLk RX10 313 yX4_keep uX4_keep 0 := ⟨tw_661, tw_662, tw_240, by decide +kernel, Nat.le_of_ble_eq_true rfl⟩
set_option maxRecDepth 100000 in
theorem cl_X10_313 {g : gT} {u : uT} {pc : Nat} {lv st : List Value} {h : mh_T} {Q : Option Value → mh_T → Prop} (hu : u.1 = RX10) (hK : 2 < u.2.2.2.2) (hd : decode u.2.1 pc = .ok (.invokevirtual 313, 3)) (hst : (st.map fun v => v.category).sum ≤ 8) (hM : MC g yX4_keep uX4_keep [.ref 10] h (fun v h' => ME g u (pc + 3) lv (v.toList ++ st) h' Q)) : ME g u pc lv (.ref 10 :: st) h Q := m_callV (As := []) (n := 0) (ci := 4) (k := 10) (q := (RX4, TX4, 7)) hd (by rw [hu]; exact lk_X10_313) tw_663 tw_664 rfl rfl (by decide) (by decide) rfl hK hst hM
set_option maxRecDepth 100000 in
theorem lk_X10_316 : mLk RX10 316 yX4_goBack uX4_goBack 1 := ⟨tw_665, tw_666, tw_240, by decide +kernel, Nat.le_of_ble_eq_true rfl⟩
set_option maxRecDepth 100000 in
theorem cl_X10_316 {g : gT} {u : uT} {pc : Nat} {lv st : List Value} {h : mh_T} {Q : Option Value → mh_T → Prop} {a1 : Value} (hu : u.1 = RX10) (hK : 3 < u.2.2.2.2) (hd : decode u.2.1 pc = .ok (.invokevirtual 316, 3)) (hst : (st.map fun v => v.category).sum ≤ 8) (hM : MC g yX4_goBack uX4_goBack [.ref 10, a1] h (fun v h' => ME g u (pc + 3) lv (v.toList ++ st) h' Q)) : ME g u pc lv (a1 :: .ref 10 :: st) h Q := m_callV (As := [a1]) (n := 1) (ci := 4) (k := 10) (q := (RX4, TX4, 7)) hd (by rw [hu]; exact lk_X10_316) tw_667 tw_668 rfl rfl (by decide) (by decide) rfl hK hst hM
set_option maxRecDepth 100000 in
theorem gf_X10_319 {g : gT} {u : uT} {pc : Nat} {lv st : List Value} {h : mh_T} {Q : Option Value → mh_T → Prop} (hu : u.1 = RX10) (hd : decode u.2.1 pc = .ok (.getfield 319, 3)) (kk : ME g u (pc + 3) lv (.int (mI h 10 0) :: st) h Q) : ME g u pc lv (.ref 10 :: st) h Q := m_getI (ci := 4) (k := 10) (j := 0) (q := (RX4, TX4, 7)) (ref := "NotAtOnce$History") hd rfl (by decide) (by decide) rfl rfl tinX4 tgX4 (by rw [hu]; exact tw_669) rfl rfl kk
set_option maxRecDepth 100000 in
theorem gf_X10_322 {g : gT} {u : uT} {pc : Nat} {lv st : List Value} {h : mh_T} {Q : Option Value → mh_T → Prop} (hu : u.1 = RX10) (hd : decode u.2.1 pc = .ok (.getfield 322, 3)) (kk : ME g u (pc + 3) lv (.ref 40 :: st) h Q) : ME g u pc lv (.ref 10 :: st) h Q := m_getR (k' := 40) (ci := 4) (k := 10) (j := 3) (q := (RX4, TX4, 7)) (ref := "NotAtOnce$History") hd rfl (by decide) (by decide) rfl rfl tinX4 tgX4 (by rw [hu]; exact tw_670) rfl rfl rfl (by decide) kk
set_option maxRecDepth 100000 in
theorem gf_X10_326 {g : gT} {u : uT} {pc : Nat} {lv st : List Value} {h : mh_T} {Q : Option Value → mh_T → Prop} (hu : u.1 = RX10) (hd : decode u.2.1 pc = .ok (.getfield 326, 3)) (kk : ME g u (pc + 3) lv (.ref 25 :: st) h Q) : ME g u pc lv (.ref 3 :: st) h Q := m_getR (k' := 25) (ci := 8) (k := 3) (j := 5) (q := (RX8, TX8, 8)) (ref := "NotAtOnce$Table") hd rfl (by decide) (by decide) rfl rfl tinX8 tgX8 (by rw [hu]; exact tw_671) rfl rfl rfl (by decide) kk
set_option maxRecDepth 100000 in
theorem gf_X10_329 {g : gT} {u : uT} {pc : Nat} {lv st : List Value} {h : mh_T} {Q : Option Value → mh_T → Prop} (hu : u.1 = RX10) (hd : decode u.2.1 pc = .ok (.getfield 329, 3)) (kk : ME g u (pc + 3) lv (.ref 24 :: st) h Q) : ME g u pc lv (.ref 3 :: st) h Q := m_getR (k' := 24) (ci := 8) (k := 3) (j := 4) (q := (RX8, TX8, 8)) (ref := "NotAtOnce$Table") hd rfl (by decide) (by decide) rfl rfl tinX8 tgX8 (by rw [hu]; exact tw_672) rfl rfl rfl (by decide) kk
set_option maxRecDepth 100000 in
theorem gf_X10_357 {g : gT} {u : uT} {pc : Nat} {lv st : List Value} {h : mh_T} {Q : Option Value → mh_T → Prop} (hu : u.1 = RX10) (hd : decode u.2.1 pc = .ok (.getfield 357, 3)) (kk : ME g u (pc + 3) lv (.int (mI h 10 1) :: st) h Q) : ME g u pc lv (.ref 10 :: st) h Q := m_getI (ci := 4) (k := 10) (j := 1) (q := (RX4, TX4, 7)) (ref := "NotAtOnce$History") hd rfl (by decide) (by decide) rfl rfl tinX4 tgX4 (by rw [hu]; exact tw_673) rfl rfl kk
set_option maxRecDepth 100000 in
theorem gf_X10_354 {g : gT} {u : uT} {pc : Nat} {lv st : List Value} {h : mh_T} {Q : Option Value → mh_T → Prop} (hu : u.1 = RX10) (hd : decode u.2.1 pc = .ok (.getfield 354, 3)) (kk : ME g u (pc + 3) lv (.int (mI h 9 0) :: st) h Q) : ME g u pc lv (.ref 9 :: st) h Q := m_getI (ci := 9) (k := 9) (j := 0) (q := (RX9, TX9, 10)) (ref := "NotAtOnce$Telling") hd rfl (by decide) (by decide) rfl rfl tinX9 tgX9 (by rw [hu]; exact tw_674) rfl rfl kk
set_option maxRecDepth 100000 in
theorem gf_X10_351 {g : gT} {u : uT} {pc : Nat} {lv st : List Value} {h : mh_T} {Q : Option Value → mh_T → Prop} (hu : u.1 = RX10) (hd : decode u.2.1 pc = .ok (.getfield 351, 3)) (kk : ME g u (pc + 3) lv (.int (mI h 8 0) :: st) h Q) : ME g u pc lv (.ref 8 :: st) h Q := m_getI (ci := 3) (k := 8) (j := 0) (q := (RX3, TX3, 12)) (ref := "NotAtOnce$Frames") hd rfl (by decide) (by decide) rfl rfl tinX3 tgX3 (by rw [hu]; exact tw_675) rfl rfl kk
set_option maxRecDepth 100000 in
theorem gf_X10_348 {g : gT} {u : uT} {pc : Nat} {lv st : List Value} {h : mh_T} {Q : Option Value → mh_T → Prop} (hu : u.1 = RX10) (hd : decode u.2.1 pc = .ok (.getfield 348, 3)) (kk : ME g u (pc + 3) lv (.int (mI h 3 2) :: st) h Q) : ME g u pc lv (.ref 3 :: st) h Q := m_getI (ci := 8) (k := 3) (j := 2) (q := (RX8, TX8, 8)) (ref := "NotAtOnce$Table") hd rfl (by decide) (by decide) rfl rfl tinX8 tgX8 (by rw [hu]; exact tw_676) rfl rfl kk
set_option maxRecDepth 100000 in
theorem gf_X10_9 {g : gT} {u : uT} {pc : Nat} {lv st : List Value} {h : mh_T} {Q : Option Value → mh_T → Prop} (hu : u.1 = RX10) (hd : decode u.2.1 pc = .ok (.getfield 9, 3)) (kk : ME g u (pc + 3) lv (.ref 12 :: st) h Q) : ME g u pc lv (.ref 0 :: st) h Q := m_getR (k' := 12) (ci := 10) (k := 0) (j := 0) (q := (RX10, TX10, 14)) (ref := "NotAtOnce") hd rfl (by decide) (by decide) rfl rfl tinX10 tgX10 (by rw [hu]; exact tw_677) rfl rfl rfl (by decide) kk
set_option maxRecDepth 100000 in
theorem pf_X11_69 {g : gT} {u : uT} {pc : Nat} {lv st : List Value} {h : mh_T} {Q : Option Value → mh_T → Prop} {v : Int32} (hu : u.1 = RX11) (hd : decode u.2.1 pc = .ok (.putfield 69, 3)) (kk : ME g u (pc + 3) lv st (wI h 11 0 v) Q) : ME g u pc lv (.int v :: .ref 11 :: st) h Q := m_putI (ty := .int) (ci := 11) (k := 11) (j := 0) (q := (RX11, TX11, 40)) (ref := "NotAtOnceModel") hd rfl (by decide) (by decide) rfl rfl tinX11 tgX11 (by rw [hu]; exact tw_678) rfl tyX11 tyX11_ok nmX11 rfl (by decide +kernel) rfl rfl rfl kk
set_option maxRecDepth 100000 in
theorem pf_X11_72 {g : gT} {u : uT} {pc : Nat} {lv st : List Value} {h : mh_T} {Q : Option Value → mh_T → Prop} {v : Int32} (hu : u.1 = RX11) (hd : decode u.2.1 pc = .ok (.putfield 72, 3)) (kk : ME g u (pc + 3) lv st (wI h 11 11 v) Q) : ME g u pc lv (.int v :: .ref 11 :: st) h Q := m_putI (ty := .int) (ci := 11) (k := 11) (j := 11) (q := (RX11, TX11, 40)) (ref := "NotAtOnceModel") hd rfl (by decide) (by decide) rfl rfl tinX11 tgX11 (by rw [hu]; exact tw_679) rfl tyX11 tyX11_ok nmX11 rfl (by decide +kernel) rfl rfl rfl kk
set_option maxRecDepth 100000 in
theorem gf_X11_75 {g : gT} {u : uT} {pc : Nat} {lv st : List Value} {h : mh_T} {Q : Option Value → mh_T → Prop} (hu : u.1 = RX11) (hd : decode u.2.1 pc = .ok (.getfield 75, 3)) (kk : ME g u (pc + 3) lv (.int (mI h 11 2) :: st) h Q) : ME g u pc lv (.ref 11 :: st) h Q := m_getI (ci := 11) (k := 11) (j := 2) (q := (RX11, TX11, 40)) (ref := "NotAtOnceModel") hd rfl (by decide) (by decide) rfl rfl tinX11 tgX11 (by rw [hu]; exact tw_680) rfl rfl kk
set_option maxRecDepth 100000 in
theorem gf_X11_7 {g : gT} {u : uT} {pc : Nat} {lv st : List Value} {h : mh_T} {Q : Option Value → mh_T → Prop} (hu : u.1 = RX11) (hd : decode u.2.1 pc = .ok (.getfield 7, 3)) (kk : ME g u (pc + 3) lv (.ref 43 :: st) h Q) : ME g u pc lv (.ref 11 :: st) h Q := m_getR (k' := 43) (ci := 11) (k := 11) (j := 1) (q := (RX11, TX11, 40)) (ref := "NotAtOnceModel") hd rfl (by decide) (by decide) rfl rfl tinX11 tgX11 (by rw [hu]; exact tw_681) rfl rfl rfl (by decide) kk
set_option maxRecDepth 100000 in
theorem pf_X11_75 {g : gT} {u : uT} {pc : Nat} {lv st : List Value} {h : mh_T} {Q : Option Value → mh_T → Prop} {v : Int32} (hu : u.1 = RX11) (hd : decode u.2.1 pc = .ok (.putfield 75, 3)) (kk : ME g u (pc + 3) lv st (wI h 11 2 v) Q) : ME g u pc lv (.int v :: .ref 11 :: st) h Q := m_putI (ty := .int) (ci := 11) (k := 11) (j := 2) (q := (RX11, TX11, 40)) (ref := "NotAtOnceModel") hd rfl (by decide) (by decide) rfl rfl tinX11 tgX11 (by rw [hu]; exact tw_680) rfl tyX11 tyX11_ok nmX11 rfl (by decide +kernel) rfl rfl rfl kk
set_option maxRecDepth 100000 in
theorem gf_X11_78 {g : gT} {u : uT} {pc : Nat} {lv st : List Value} {h : mh_T} {Q : Option Value → mh_T → Prop} (hu : u.1 = RX11) (hd : decode u.2.1 pc = .ok (.getfield 78, 3)) (kk : ME g u (pc + 3) lv (.int (mI h 11 3) :: st) h Q) : ME g u pc lv (.ref 11 :: st) h Q := m_getI (ci := 11) (k := 11) (j := 3) (q := (RX11, TX11, 40)) (ref := "NotAtOnceModel") hd rfl (by decide) (by decide) rfl rfl tinX11 tgX11 (by rw [hu]; exact tw_682) rfl rfl kk
set_option maxRecDepth 100000 in
theorem gf_X11_81 {g : gT} {u : uT} {pc : Nat} {lv st : List Value} {h : mh_T} {Q : Option Value → mh_T → Prop} (hu : u.1 = RX11) (hd : decode u.2.1 pc = .ok (.getfield 81, 3)) (kk : ME g u (pc + 3) lv (.int (mI h 11 5) :: st) h Q) : ME g u pc lv (.ref 11 :: st) h Q := m_getI (ci := 11) (k := 11) (j := 5) (q := (RX11, TX11, 40)) (ref := "NotAtOnceModel") hd rfl (by decide) (by decide) rfl rfl tinX11 tgX11 (by rw [hu]; exact tw_683) rfl rfl kk
set_option maxRecDepth 100000 in
theorem gf_X11_91 {g : gT} {u : uT} {pc : Nat} {lv st : List Value} {h : mh_T} {Q : Option Value → mh_T → Prop} (hu : u.1 = RX11) (hd : decode u.2.1 pc = .ok (.getfield 91, 3)) (kk : ME g u (pc + 3) lv (.int (mI h 11 8) :: st) h Q) : ME g u pc lv (.ref 11 :: st) h Q := m_getI (ci := 11) (k := 11) (j := 8) (q := (RX11, TX11, 40)) (ref := "NotAtOnceModel") hd rfl (by decide) (by decide) rfl rfl tinX11 tgX11 (by rw [hu]; exact tw_684) rfl rfl kk
set_option maxRecDepth 100000 in
theorem gf_X11_17 {g : gT} {u : uT} {pc : Nat} {lv st : List Value} {h : mh_T} {Q : Option Value → mh_T → Prop} (hu : u.1 = RX11) (hd : decode u.2.1 pc = .ok (.getfield 17, 3)) (kk : ME g u (pc + 3) lv (.ref 44 :: st) h Q) : ME g u pc lv (.ref 11 :: st) h Q := m_getR (k' := 44) (ci := 11) (k := 11) (j := 12) (q := (RX11, TX11, 40)) (ref := "NotAtOnceModel") hd rfl (by decide) (by decide) rfl rfl tinX11 tgX11 (by rw [hu]; exact tw_685) rfl rfl rfl (by decide) kk
set_option maxRecDepth 100000 in
theorem gf_X11_94 {g : gT} {u : uT} {pc : Nat} {lv st : List Value} {h : mh_T} {Q : Option Value → mh_T → Prop} (hu : u.1 = RX11) (hd : decode u.2.1 pc = .ok (.getfield 94, 3)) (kk : ME g u (pc + 3) lv (.int (mI h 11 7) :: st) h Q) : ME g u pc lv (.ref 11 :: st) h Q := m_getI (ci := 11) (k := 11) (j := 7) (q := (RX11, TX11, 40)) (ref := "NotAtOnceModel") hd rfl (by decide) (by decide) rfl rfl tinX11 tgX11 (by rw [hu]; exact tw_686) rfl rfl kk
set_option maxRecDepth 100000 in
theorem lk_X11_84 : mLk RX11 84 yX11_see uX11_see 1 := ⟨tw_687, tw_688, tw_689, by decide +kernel, Nat.le_of_ble_eq_true rfl⟩
set_option maxRecDepth 100000 in
theorem cl_X11_84 {g : gT} {u : uT} {pc : Nat} {lv st : List Value} {h : mh_T} {Q : Option Value → mh_T → Prop} {a1 : Value} (hu : u.1 = RX11) (hK : 1 < u.2.2.2.2) (hd : decode u.2.1 pc = .ok (.invokevirtual 84, 3)) (hst : (st.map fun v => v.category).sum ≤ 8) (hM : MC g yX11_see uX11_see [.ref 11, a1] h (fun v h' => ME g u (pc + 3) lv (v.toList ++ st) h' Q)) : ME g u pc lv (a1 :: .ref 11 :: st) h Q := m_callV (As := [a1]) (n := 1) (ci := 11) (k := 11) (q := (RX11, TX11, 40)) hd (by rw [hu]; exact lk_X11_84) tw_690 tw_691 rfl rfl (by decide) (by decide) rfl hK hst hM
set_option maxRecDepth 100000 in
theorem pf_X11_88 {g : gT} {u : uT} {pc : Nat} {lv st : List Value} {h : mh_T} {Q : Option Value → mh_T → Prop} {v : Int32} (hu : u.1 = RX11) (hd : decode u.2.1 pc = .ok (.putfield 88, 3)) (kk : ME g u (pc + 3) lv st (wI h 11 4 v) Q) : ME g u pc lv (.int v :: .ref 11 :: st) h Q := m_putI (ty := .int) (ci := 11) (k := 11) (j := 4) (q := (RX11, TX11, 40)) (ref := "NotAtOnceModel") hd rfl (by decide) (by decide) rfl rfl tinX11 tgX11 (by rw [hu]; exact tw_692) rfl tyX11 tyX11_ok nmX11 rfl (by decide +kernel) rfl rfl rfl kk
set_option maxRecDepth 100000 in
theorem pf_X11_91 {g : gT} {u : uT} {pc : Nat} {lv st : List Value} {h : mh_T} {Q : Option Value → mh_T → Prop} {v : Int32} (hu : u.1 = RX11) (hd : decode u.2.1 pc = .ok (.putfield 91, 3)) (kk : ME g u (pc + 3) lv st (wI h 11 8 v) Q) : ME g u pc lv (.int v :: .ref 11 :: st) h Q := m_putI (ty := .int) (ci := 11) (k := 11) (j := 8) (q := (RX11, TX11, 40)) (ref := "NotAtOnceModel") hd rfl (by decide) (by decide) rfl rfl tinX11 tgX11 (by rw [hu]; exact tw_684) rfl tyX11 tyX11_ok nmX11 rfl (by decide +kernel) rfl rfl rfl kk
set_option maxRecDepth 100000 in
theorem pf_X11_94 {g : gT} {u : uT} {pc : Nat} {lv st : List Value} {h : mh_T} {Q : Option Value → mh_T → Prop} {v : Int32} (hu : u.1 = RX11) (hd : decode u.2.1 pc = .ok (.putfield 94, 3)) (kk : ME g u (pc + 3) lv st (wI h 11 7 v) Q) : ME g u pc lv (.int v :: .ref 11 :: st) h Q := m_putI (ty := .int) (ci := 11) (k := 11) (j := 7) (q := (RX11, TX11, 40)) (ref := "NotAtOnceModel") hd rfl (by decide) (by decide) rfl rfl tinX11 tgX11 (by rw [hu]; exact tw_686) rfl tyX11 tyX11_ok nmX11 rfl (by decide +kernel) rfl rfl rfl kk
set_option maxRecDepth 100000 in
theorem lk_X11_100 : mLk RX11 100 yX11_isSmall uX11_isSmall 1 := ⟨tw_693, tw_694, tw_689, by decide +kernel, Nat.le_of_ble_eq_true rfl⟩
set_option maxRecDepth 100000 in
theorem cl_X11_100 {g : gT} {u : uT} {pc : Nat} {lv st : List Value} {h : mh_T} {Q : Option Value → mh_T → Prop} {a1 : Value} (hu : u.1 = RX11) (hK : 1 < u.2.2.2.2) (hd : decode u.2.1 pc = .ok (.invokestatic 100, 3)) (hst : (st.map fun v => v.category).sum ≤ 8) (hM : MC g yX11_isSmall uX11_isSmall [a1] h (fun v h' => ME g u (pc + 3) lv (v.toList ++ st) h' Q)) : ME g u pc lv (a1 :: st) h Q := m_callS (As := [a1]) (n := 1) hd (by rw [hu]; exact lk_X11_100) tw_695 rfl hK hst hM
set_option maxRecDepth 100000 in
theorem lk_X11_104 : mLk RX11 104 yX11_isDigit uX11_isDigit 1 := ⟨tw_696, tw_697, tw_689, by decide +kernel, Nat.le_of_ble_eq_true rfl⟩
set_option maxRecDepth 100000 in
theorem cl_X11_104 {g : gT} {u : uT} {pc : Nat} {lv st : List Value} {h : mh_T} {Q : Option Value → mh_T → Prop} {a1 : Value} (hu : u.1 = RX11) (hK : 1 < u.2.2.2.2) (hd : decode u.2.1 pc = .ok (.invokestatic 104, 3)) (hst : (st.map fun v => v.category).sum ≤ 8) (hM : MC g yX11_isDigit uX11_isDigit [a1] h (fun v h' => ME g u (pc + 3) lv (v.toList ++ st) h' Q)) : ME g u pc lv (a1 :: st) h Q := m_callS (As := [a1]) (n := 1) hd (by rw [hu]; exact lk_X11_104) tw_698 rfl hK hst hM
set_option maxRecDepth 100000 in
theorem pf_X11_81 {g : gT} {u : uT} {pc : Nat} {lv st : List Value} {h : mh_T} {Q : Option Value → mh_T → Prop} {v : Int32} (hu : u.1 = RX11) (hd : decode u.2.1 pc = .ok (.putfield 81, 3)) (kk : ME g u (pc + 3) lv st (wI h 11 5 v) Q) : ME g u pc lv (.int v :: .ref 11 :: st) h Q := m_putI (ty := .int) (ci := 11) (k := 11) (j := 5) (q := (RX11, TX11, 40)) (ref := "NotAtOnceModel") hd rfl (by decide) (by decide) rfl rfl tinX11 tgX11 (by rw [hu]; exact tw_683) rfl tyX11 tyX11_ok nmX11 rfl (by decide +kernel) rfl rfl rfl kk
set_option maxRecDepth 100000 in
theorem pf_X11_97 {g : gT} {u : uT} {pc : Nat} {lv st : List Value} {h : mh_T} {Q : Option Value → mh_T → Prop} {v : Int32} (hu : u.1 = RX11) (hd : decode u.2.1 pc = .ok (.putfield 97, 3)) (kk : ME g u (pc + 3) lv st (wI h 11 6 v) Q) : ME g u pc lv (.int v :: .ref 11 :: st) h Q := m_putI (ty := .int) (ci := 11) (k := 11) (j := 6) (q := (RX11, TX11, 40)) (ref := "NotAtOnceModel") hd rfl (by decide) (by decide) rfl rfl tinX11 tgX11 (by rw [hu]; exact tw_699) rfl tyX11 tyX11_ok nmX11 rfl (by decide +kernel) rfl rfl rfl kk
set_option maxRecDepth 100000 in
theorem gf_X11_107 {g : gT} {u : uT} {pc : Nat} {lv st : List Value} {h : mh_T} {Q : Option Value → mh_T → Prop} (hu : u.1 = RX11) (hd : decode u.2.1 pc = .ok (.getfield 107, 3)) (kk : ME g u (pc + 3) lv (.int (mI h 11 13) :: st) h Q) : ME g u pc lv (.ref 11 :: st) h Q := m_getI (ci := 11) (k := 11) (j := 13) (q := (RX11, TX11, 40)) (ref := "NotAtOnceModel") hd rfl (by decide) (by decide) rfl rfl tinX11 tgX11 (by rw [hu]; exact tw_700) rfl rfl kk
set_option maxRecDepth 100000 in
theorem pf_X11_107 {g : gT} {u : uT} {pc : Nat} {lv st : List Value} {h : mh_T} {Q : Option Value → mh_T → Prop} {v : Int32} (hu : u.1 = RX11) (hd : decode u.2.1 pc = .ok (.putfield 107, 3)) (hz : v = 0 ∨ v = 1) (kk : ME g u (pc + 3) lv st (wI h 11 13 v) Q) : ME g u pc lv (.int v :: .ref 11 :: st) h Q := m_putI (ty := .boolean) (ci := 11) (k := 11) (j := 13) (q := (RX11, TX11, 40)) (ref := "NotAtOnceModel") hd rfl (by decide) (by decide) rfl rfl tinX11 tgX11 (by rw [hu]; exact tw_700) rfl tyX11 tyX11_ok nmX11 rfl (by decide +kernel) (by rcases hz with e | e <;> subst e <;> decide) (by rcases hz with e | e <;> subst e <;> decide) rfl kk
set_option maxRecDepth 100000 in
theorem pf_X11_111 {g : gT} {u : uT} {pc : Nat} {lv st : List Value} {h : mh_T} {Q : Option Value → mh_T → Prop} {v : Int32} (hu : u.1 = RX11) (hd : decode u.2.1 pc = .ok (.putfield 111, 3)) (kk : ME g u (pc + 3) lv st (wI h 11 9 v) Q) : ME g u pc lv (.int v :: .ref 11 :: st) h Q := m_putI (ty := .int) (ci := 11) (k := 11) (j := 9) (q := (RX11, TX11, 40)) (ref := "NotAtOnceModel") hd rfl (by decide) (by decide) rfl rfl tinX11 tgX11 (by rw [hu]; exact tw_701) rfl tyX11 tyX11_ok nmX11 rfl (by decide +kernel) rfl rfl rfl kk
set_option maxRecDepth 100000 in
theorem pf_X11_13 {g : gT} {u : uT} {pc : Nat} {lv st : List Value} {h : mh_T} {Q : Option Value → mh_T → Prop} {v : Int32} (hu : u.1 = RX11) (hd : decode u.2.1 pc = .ok (.putfield 13, 3)) (kk : ME g u (pc + 3) lv st (wI h 11 10 v) Q) : ME g u pc lv (.int v :: .ref 11 :: st) h Q := m_putI (ty := .int) (ci := 11) (k := 11) (j := 10) (q := (RX11, TX11, 40)) (ref := "NotAtOnceModel") hd rfl (by decide) (by decide) rfl rfl tinX11 tgX11 (by rw [hu]; exact tw_702) rfl tyX11 tyX11_ok nmX11 rfl (by decide +kernel) rfl rfl rfl kk
set_option maxRecDepth 100000 in
theorem gf_X11_97 {g : gT} {u : uT} {pc : Nat} {lv st : List Value} {h : mh_T} {Q : Option Value → mh_T → Prop} (hu : u.1 = RX11) (hd : decode u.2.1 pc = .ok (.getfield 97, 3)) (kk : ME g u (pc + 3) lv (.int (mI h 11 6) :: st) h Q) : ME g u pc lv (.ref 11 :: st) h Q := m_getI (ci := 11) (k := 11) (j := 6) (q := (RX11, TX11, 40)) (ref := "NotAtOnceModel") hd rfl (by decide) (by decide) rfl rfl tinX11 tgX11 (by rw [hu]; exact tw_699) rfl rfl kk
set_option maxRecDepth 100000 in
theorem lk_X11_114 : mLk RX11 114 yJ0_length_8abf5 uJ0_length_8abf5 0 := ⟨tw_425, tw_703, tw_6, by decide +kernel, Nat.le_of_ble_eq_true rfl⟩
set_option maxRecDepth 100000 in
theorem cl_X11_114 {g : gT} {u : uT} {pc : Nat} {lv st : List Value} {h : mh_T} {Q : Option Value → mh_T → Prop} {i : Nat} (hu : u.1 = RX11) (hK : 2 < u.2.2.2.2) (hi : i < nJS) (hd : decode u.2.1 pc = .ok (.invokevirtual 114, 3)) (hst : (st.map fun v => v.category).sum ≤ 8) (hM : MC g yJ0_length_8abf5 uJ0_length_8abf5 [.ref (1000 + i)] h (fun v h' => ME g u (pc + 3) lv (v.toList ++ st) h' Q)) : ME g u pc lv (.ref (1000 + i) :: st) h Q := m_callVS (As := []) (n := 0) hd (by rw [hu]; exact lk_X11_114) tw_427 tw_428 hi rfl hK hst hM
set_option maxRecDepth 100000 in
theorem lk_X11_120 : mLk RX11 120 yJ0_charAt_5068e uJ0_charAt_5068e 1 := ⟨tw_429, tw_704, tw_6, by decide +kernel, Nat.le_of_ble_eq_true rfl⟩
set_option maxRecDepth 100000 in
theorem cl_X11_120 {g : gT} {u : uT} {pc : Nat} {lv st : List Value} {h : mh_T} {Q : Option Value → mh_T → Prop} {i : Nat} {a1 : Value} (hu : u.1 = RX11) (hK : 4 < u.2.2.2.2) (hi : i < nJS) (hd : decode u.2.1 pc = .ok (.invokevirtual 120, 3)) (hst : (st.map fun v => v.category).sum ≤ 8) (hM : MC g yJ0_charAt_5068e uJ0_charAt_5068e [.ref (1000 + i), a1] h (fun v h' => ME g u (pc + 3) lv (v.toList ++ st) h' Q)) : ME g u pc lv (a1 :: .ref (1000 + i) :: st) h Q := m_callVS (As := [a1]) (n := 1) hd (by rw [hu]; exact lk_X11_120) tw_431 tw_432 hi rfl hK hst hM
set_option maxRecDepth 100000 in
theorem lk_X11_124 : mLk RX11 124 yX11_isWord uX11_isWord 1 := ⟨tw_705, tw_706, tw_689, by decide +kernel, Nat.le_of_ble_eq_true rfl⟩
set_option maxRecDepth 100000 in
theorem cl_X11_124 {g : gT} {u : uT} {pc : Nat} {lv st : List Value} {h : mh_T} {Q : Option Value → mh_T → Prop} {a1 : Value} (hu : u.1 = RX11) (hK : 5 < u.2.2.2.2) (hd : decode u.2.1 pc = .ok (.invokevirtual 124, 3)) (hst : (st.map fun v => v.category).sum ≤ 8) (hM : MC g yX11_isWord uX11_isWord [.ref 11, a1] h (fun v h' => ME g u (pc + 3) lv (v.toList ++ st) h' Q)) : ME g u pc lv (a1 :: .ref 11 :: st) h Q := m_callV (As := [a1]) (n := 1) (ci := 11) (k := 11) (q := (RX11, TX11, 40)) hd (by rw [hu]; exact lk_X11_124) tw_707 tw_708 rfl rfl (by decide) (by decide) rfl hK hst hM
set_option maxRecDepth 100000 in
theorem lk_X11_128 : mLk RX11 128 yX11_next uX11_next 0 := ⟨tw_709, tw_710, tw_689, by decide +kernel, Nat.le_of_ble_eq_true rfl⟩
set_option maxRecDepth 100000 in
theorem cl_X11_128 {g : gT} {u : uT} {pc : Nat} {lv st : List Value} {h : mh_T} {Q : Option Value → mh_T → Prop} (hu : u.1 = RX11) (hK : 2 < u.2.2.2.2) (hd : decode u.2.1 pc = .ok (.invokevirtual 128, 3)) (hst : (st.map fun v => v.category).sum ≤ 8) (hM : MC g yX11_next uX11_next [.ref 11] h (fun v h' => ME g u (pc + 3) lv (v.toList ++ st) h' Q)) : ME g u pc lv (.ref 11 :: st) h Q := m_callV (As := []) (n := 0) (ci := 11) (k := 11) (q := (RX11, TX11, 40)) hd (by rw [hu]; exact lk_X11_128) tw_711 tw_712 rfl rfl (by decide) (by decide) rfl hK hst hM
set_option maxRecDepth 100000 in
theorem gf_X11_88 {g : gT} {u : uT} {pc : Nat} {lv st : List Value} {h : mh_T} {Q : Option Value → mh_T → Prop} (hu : u.1 = RX11) (hd : decode u.2.1 pc = .ok (.getfield 88, 3)) (kk : ME g u (pc + 3) lv (.int (mI h 11 4) :: st) h Q) : ME g u pc lv (.ref 11 :: st) h Q := m_getI (ci := 11) (k := 11) (j := 4) (q := (RX11, TX11, 40)) (ref := "NotAtOnceModel") hd rfl (by decide) (by decide) rfl rfl tinX11 tgX11 (by rw [hu]; exact tw_692) rfl rfl kk
set_option maxRecDepth 100000 in
theorem lk_X11_131 : mLk RX11 131 yX11_takes uX11_takes 1 := ⟨tw_713, tw_714, tw_689, by decide +kernel, Nat.le_of_ble_eq_true rfl⟩
set_option maxRecDepth 100000 in
theorem cl_X11_131 {g : gT} {u : uT} {pc : Nat} {lv st : List Value} {h : mh_T} {Q : Option Value → mh_T → Prop} {a1 : Value} (hu : u.1 = RX11) (hK : 6 < u.2.2.2.2) (hd : decode u.2.1 pc = .ok (.invokevirtual 131, 3)) (hst : (st.map fun v => v.category).sum ≤ 8) (hM : MC g yX11_takes uX11_takes [.ref 11, a1] h (fun v h' => ME g u (pc + 3) lv (v.toList ++ st) h' Q)) : ME g u pc lv (a1 :: .ref 11 :: st) h Q := m_callV (As := [a1]) (n := 1) (ci := 11) (k := 11) (q := (RX11, TX11, 40)) hd (by rw [hu]; exact lk_X11_131) tw_715 tw_716 rfl rfl (by decide) (by decide) rfl hK hst hM
set_option maxRecDepth 100000 in
theorem lk_X11_134 : mLk RX11 134 yX11_wrong uX11_wrong 2 := ⟨tw_717, tw_718, tw_689, by decide +kernel, Nat.le_of_ble_eq_true rfl⟩
set_option maxRecDepth 100000 in
theorem cl_X11_134 {g : gT} {u : uT} {pc : Nat} {lv st : List Value} {h : mh_T} {Q : Option Value → mh_T → Prop} {a1 a2 : Value} (hu : u.1 = RX11) (hK : 1 < u.2.2.2.2) (hd : decode u.2.1 pc = .ok (.invokevirtual 134, 3)) (hst : (st.map fun v => v.category).sum ≤ 8) (hM : MC g yX11_wrong uX11_wrong [.ref 11, a1, a2] h (fun v h' => ME g u (pc + 3) lv (v.toList ++ st) h' Q)) : ME g u pc lv (a2 :: a1 :: .ref 11 :: st) h Q := m_callV (As := [a1, a2]) (n := 2) (ci := 11) (k := 11) (q := (RX11, TX11, 40)) hd (by rw [hu]; exact lk_X11_134) tw_719 tw_720 rfl rfl (by decide) (by decide) rfl hK hst hM
set_option maxRecDepth 100000 in
theorem gf_X11_23 {g : gT} {u : uT} {pc : Nat} {lv st : List Value} {h : mh_T} {Q : Option Value → mh_T → Prop} (hu : u.1 = RX11) (hd : decode u.2.1 pc = .ok (.getfield 23, 3)) (kk : ME g u (pc + 3) lv (.ref 46 :: st) h Q) : ME g u pc lv (.ref 11 :: st) h Q := m_getR (k' := 46) (ci := 11) (k := 11) (j := 16) (q := (RX11, TX11, 40)) (ref := "NotAtOnceModel") hd rfl (by decide) (by decide) rfl rfl tinX11 tgX11 (by rw [hu]; exact tw_721) rfl rfl rfl (by decide) kk
set_option maxRecDepth 100000 in
theorem lk_X11_152 : mLk RX11 152 yX11_mustName uX11_mustName 0 := ⟨tw_722, tw_723, tw_689, by decide +kernel, Nat.le_of_ble_eq_true rfl⟩
set_option maxRecDepth 100000 in
theorem cl_X11_152 {g : gT} {u : uT} {pc : Nat} {lv st : List Value} {h : mh_T} {Q : Option Value → mh_T → Prop} (hu : u.1 = RX11) (hK : 6 < u.2.2.2.2) (hd : decode u.2.1 pc = .ok (.invokevirtual 152, 3)) (hst : (st.map fun v => v.category).sum ≤ 8) (hM : MC g yX11_mustName uX11_mustName [.ref 11] h (fun v h' => ME g u (pc + 3) lv (v.toList ++ st) h' Q)) : ME g u pc lv (.ref 11 :: st) h Q := m_callV (As := []) (n := 0) (ci := 11) (k := 11) (q := (RX11, TX11, 40)) hd (by rw [hu]; exact lk_X11_152) tw_724 tw_725 rfl rfl (by decide) (by decide) rfl hK hst hM
set_option maxRecDepth 100000 in
theorem lk_X11_155 : mLk RX11 155 yX11_find uX11_find 0 := ⟨tw_726, tw_727, tw_689, by decide +kernel, Nat.le_of_ble_eq_true rfl⟩
set_option maxRecDepth 100000 in
theorem cl_X11_155 {g : gT} {u : uT} {pc : Nat} {lv st : List Value} {h : mh_T} {Q : Option Value → mh_T → Prop} (hu : u.1 = RX11) (hK : 1 < u.2.2.2.2) (hd : decode u.2.1 pc = .ok (.invokevirtual 155, 3)) (hst : (st.map fun v => v.category).sum ≤ 8) (hM : MC g yX11_find uX11_find [.ref 11] h (fun v h' => ME g u (pc + 3) lv (v.toList ++ st) h' Q)) : ME g u pc lv (.ref 11 :: st) h Q := m_callV (As := []) (n := 0) (ci := 11) (k := 11) (q := (RX11, TX11, 40)) hd (by rw [hu]; exact lk_X11_155) tw_728 tw_729 rfl rfl (by decide) (by decide) rfl hK hst hM
set_option maxRecDepth 100000 in
theorem lk_X11_158 : mLk RX11 158 yX11_comma uX11_comma 0 := ⟨tw_730, tw_731, tw_689, by decide +kernel, Nat.le_of_ble_eq_true rfl⟩
set_option maxRecDepth 100000 in
theorem cl_X11_158 {g : gT} {u : uT} {pc : Nat} {lv st : List Value} {h : mh_T} {Q : Option Value → mh_T → Prop} (hu : u.1 = RX11) (hK : 3 < u.2.2.2.2) (hd : decode u.2.1 pc = .ok (.invokevirtual 158, 3)) (hst : (st.map fun v => v.category).sum ≤ 8) (hM : MC g yX11_comma uX11_comma [.ref 11] h (fun v h' => ME g u (pc + 3) lv (v.toList ++ st) h' Q)) : ME g u pc lv (.ref 11 :: st) h Q := m_callV (As := []) (n := 0) (ci := 11) (k := 11) (q := (RX11, TX11, 40)) hd (by rw [hu]; exact lk_X11_158) tw_732 tw_733 rfl rfl (by decide) (by decide) rfl hK hst hM
set_option maxRecDepth 100000 in
theorem lk_X11_162 : mLk RX11 162 yX11_has uX11_has 2 := ⟨tw_734, tw_735, tw_689, by decide +kernel, Nat.le_of_ble_eq_true rfl⟩
set_option maxRecDepth 100000 in
theorem cl_X11_162 {g : gT} {u : uT} {pc : Nat} {lv st : List Value} {h : mh_T} {Q : Option Value → mh_T → Prop} {a1 a2 : Value} (hu : u.1 = RX11) (hK : 1 < u.2.2.2.2) (hd : decode u.2.1 pc = .ok (.invokestatic 162, 3)) (hst : (st.map fun v => v.category).sum ≤ 8) (hM : MC g yX11_has uX11_has [a1, a2] h (fun v h' => ME g u (pc + 3) lv (v.toList ++ st) h' Q)) : ME g u pc lv (a2 :: a1 :: st) h Q := m_callS (As := [a1, a2]) (n := 2) hd (by rw [hu]; exact lk_X11_162) tw_736 rfl hK hst hM
set_option maxRecDepth 100000 in
theorem lk_X11_166 : mLk RX11 166 yX11_named uX11_named 2 := ⟨tw_737, tw_738, tw_689, by decide +kernel, Nat.le_of_ble_eq_true rfl⟩
set_option maxRecDepth 100000 in
theorem cl_X11_166 {g : gT} {u : uT} {pc : Nat} {lv st : List Value} {h : mh_T} {Q : Option Value → mh_T → Prop} {a1 a2 : Value} (hu : u.1 = RX11) (hK : 7 < u.2.2.2.2) (hd : decode u.2.1 pc = .ok (.invokevirtual 166, 3)) (hst : (st.map fun v => v.category).sum ≤ 8) (hM : MC g yX11_named uX11_named [.ref 11, a1, a2] h (fun v h' => ME g u (pc + 3) lv (v.toList ++ st) h' Q)) : ME g u pc lv (a2 :: a1 :: .ref 11 :: st) h Q := m_callV (As := [a1, a2]) (n := 2) (ci := 11) (k := 11) (q := (RX11, TX11, 40)) hd (by rw [hu]; exact lk_X11_166) tw_739 tw_740 rfl rfl (by decide) (by decide) rfl hK hst hM
set_option maxRecDepth 100000 in
theorem lk_X11_170 : mLk RX11 170 yX11_within uX11_within 3 := ⟨tw_741, tw_742, tw_689, by decide +kernel, Nat.le_of_ble_eq_true rfl⟩
set_option maxRecDepth 100000 in
theorem cl_X11_170 {g : gT} {u : uT} {pc : Nat} {lv st : List Value} {h : mh_T} {Q : Option Value → mh_T → Prop} {a1 a2 a3 : Value} (hu : u.1 = RX11) (hK : 1 < u.2.2.2.2) (hd : decode u.2.1 pc = .ok (.invokestatic 170, 3)) (hst : (st.map fun v => v.category).sum ≤ 8) (hM : MC g yX11_within uX11_within [a1, a2, a3] h (fun v h' => ME g u (pc + 3) lv (v.toList ++ st) h' Q)) : ME g u pc lv (a3 :: a2 :: a1 :: st) h Q := m_callS (As := [a1, a2, a3]) (n := 3) hd (by rw [hu]; exact lk_X11_170) tw_743 rfl hK hst hM
set_option maxRecDepth 100000 in
theorem gf_X11_20 {g : gT} {u : uT} {pc : Nat} {lv st : List Value} {h : mh_T} {Q : Option Value → mh_T → Prop} (hu : u.1 = RX11) (hd : decode u.2.1 pc = .ok (.getfield 20, 3)) (kk : ME g u (pc + 3) lv (.ref 45 :: st) h Q) : ME g u pc lv (.ref 11 :: st) h Q := m_getR (k' := 45) (ci := 11) (k := 11) (j := 15) (q := (RX11, TX11, 40)) (ref := "NotAtOnceModel") hd rfl (by decide) (by decide) rfl rfl tinX11 tgX11 (by rw [hu]; exact tw_744) rfl rfl rfl (by decide) kk
set_option maxRecDepth 100000 in
theorem lk_X11_174 : mLk RX11 174 yX11_good uX11_good 0 := ⟨tw_745, tw_746, tw_689, by decide +kernel, Nat.le_of_ble_eq_true rfl⟩
set_option maxRecDepth 100000 in
theorem cl_X11_174 {g : gT} {u : uT} {pc : Nat} {lv st : List Value} {h : mh_T} {Q : Option Value → mh_T → Prop} (hu : u.1 = RX11) (hK : 1 < u.2.2.2.2) (hd : decode u.2.1 pc = .ok (.invokevirtual 174, 3)) (hst : (st.map fun v => v.category).sum ≤ 8) (hM : MC g yX11_good uX11_good [.ref 11] h (fun v h' => ME g u (pc + 3) lv (v.toList ++ st) h' Q)) : ME g u pc lv (.ref 11 :: st) h Q := m_callV (As := []) (n := 0) (ci := 11) (k := 11) (q := (RX11, TX11, 40)) hd (by rw [hu]; exact lk_X11_174) tw_747 tw_748 rfl rfl (by decide) (by decide) rfl hK hst hM
set_option maxRecDepth 100000 in
theorem lk_X11_177 : mLk RX11 177 yX11_no uX11_no 1 := ⟨tw_749, tw_750, tw_689, by decide +kernel, Nat.le_of_ble_eq_true rfl⟩
set_option maxRecDepth 100000 in
theorem cl_X11_177 {g : gT} {u : uT} {pc : Nat} {lv st : List Value} {h : mh_T} {Q : Option Value → mh_T → Prop} {a1 : Value} (hu : u.1 = RX11) (hK : 1 < u.2.2.2.2) (hd : decode u.2.1 pc = .ok (.invokevirtual 177, 3)) (hst : (st.map fun v => v.category).sum ≤ 8) (hM : MC g yX11_no uX11_no [.ref 11, a1] h (fun v h' => ME g u (pc + 3) lv (v.toList ++ st) h' Q)) : ME g u pc lv (a1 :: .ref 11 :: st) h Q := m_callV (As := [a1]) (n := 1) (ci := 11) (k := 11) (q := (RX11, TX11, 40)) hd (by rw [hu]; exact lk_X11_177) tw_751 tw_752 rfl rfl (by decide) (by decide) rfl hK hst hM
set_option maxRecDepth 100000 in
theorem pf_X11_78 {g : gT} {u : uT} {pc : Nat} {lv st : List Value} {h : mh_T} {Q : Option Value → mh_T → Prop} {v : Int32} (hu : u.1 = RX11) (hd : decode u.2.1 pc = .ok (.putfield 78, 3)) (kk : ME g u (pc + 3) lv st (wI h 11 3 v) Q) : ME g u pc lv (.int v :: .ref 11 :: st) h Q := m_putI (ty := .int) (ci := 11) (k := 11) (j := 3) (q := (RX11, TX11, 40)) (ref := "NotAtOnceModel") hd rfl (by decide) (by decide) rfl rfl tinX11 tgX11 (by rw [hu]; exact tw_682) rfl tyX11 tyX11_ok nmX11 rfl (by decide +kernel) rfl rfl rfl kk
set_option maxRecDepth 100000 in
theorem lk_X11_180 : mLk RX11 180 yX11_readLine uX11_readLine 0 := ⟨tw_753, tw_754, tw_689, by decide +kernel, Nat.le_of_ble_eq_true rfl⟩
set_option maxRecDepth 100000 in
theorem cl_X11_180 {g : gT} {u : uT} {pc : Nat} {lv st : List Value} {h : mh_T} {Q : Option Value → mh_T → Prop} (hu : u.1 = RX11) (hK : 10 < u.2.2.2.2) (hd : decode u.2.1 pc = .ok (.invokevirtual 180, 3)) (hst : (st.map fun v => v.category).sum ≤ 8) (hM : MC g yX11_readLine uX11_readLine [.ref 11] h (fun v h' => ME g u (pc + 3) lv (v.toList ++ st) h' Q)) : ME g u pc lv (.ref 11 :: st) h Q := m_callV (As := []) (n := 0) (ci := 11) (k := 11) (q := (RX11, TX11, 40)) hd (by rw [hu]; exact lk_X11_180) tw_755 tw_756 rfl rfl (by decide) (by decide) rfl hK hst hM
set_option maxRecDepth 100000 in
theorem pf_X11_183 {g : gT} {u : uT} {pc : Nat} {lv st : List Value} {h : mh_T} {Q : Option Value → mh_T → Prop} {v : Int32} (hu : u.1 = RX11) (hd : decode u.2.1 pc = .ok (.putfield 183, 3)) (hz : v = 0 ∨ v = 1) (kk : ME g u (pc + 3) lv st (wI h 11 14 v) Q) : ME g u pc lv (.int v :: .ref 11 :: st) h Q := m_putI (ty := .boolean) (ci := 11) (k := 11) (j := 14) (q := (RX11, TX11, 40)) (ref := "NotAtOnceModel") hd rfl (by decide) (by decide) rfl rfl tinX11 tgX11 (by rw [hu]; exact tw_757) rfl tyX11 tyX11_ok nmX11 rfl (by decide +kernel) (by rcases hz with e | e <;> subst e <;> decide) (by rcases hz with e | e <;> subst e <;> decide) rfl kk
set_option maxRecDepth 100000 in
theorem lk_X11_186 : mLk RX11 186 yX11_noCoins uX11_noCoins 0 := ⟨tw_758, tw_759, tw_689, by decide +kernel, Nat.le_of_ble_eq_true rfl⟩
set_option maxRecDepth 100000 in
theorem cl_X11_186 {g : gT} {u : uT} {pc : Nat} {lv st : List Value} {h : mh_T} {Q : Option Value → mh_T → Prop} (hu : u.1 = RX11) (hK : 1 < u.2.2.2.2) (hd : decode u.2.1 pc = .ok (.invokevirtual 186, 3)) (hst : (st.map fun v => v.category).sum ≤ 8) (hM : MC g yX11_noCoins uX11_noCoins [.ref 11] h (fun v h' => ME g u (pc + 3) lv (v.toList ++ st) h' Q)) : ME g u pc lv (.ref 11 :: st) h Q := m_callV (As := []) (n := 0) (ci := 11) (k := 11) (q := (RX11, TX11, 40)) hd (by rw [hu]; exact lk_X11_186) tw_760 tw_761 rfl rfl (by decide) (by decide) rfl hK hst hM
set_option maxRecDepth 100000 in
theorem pf_X11_189 {g : gT} {u : uT} {pc : Nat} {lv st : List Value} {h : mh_T} {Q : Option Value → mh_T → Prop} {v : Int32} (hu : u.1 = RX11) (hd : decode u.2.1 pc = .ok (.putfield 189, 3)) (kk : ME g u (pc + 3) lv st (wI h 11 24 v) Q) : ME g u pc lv (.int v :: .ref 11 :: st) h Q := m_putI (ty := .int) (ci := 11) (k := 11) (j := 24) (q := (RX11, TX11, 40)) (ref := "NotAtOnceModel") hd rfl (by decide) (by decide) rfl rfl tinX11 tgX11 (by rw [hu]; exact tw_762) rfl tyX11 tyX11_ok nmX11 rfl (by decide +kernel) rfl rfl rfl kk
set_option maxRecDepth 100000 in
theorem pf_X11_192 {g : gT} {u : uT} {pc : Nat} {lv st : List Value} {h : mh_T} {Q : Option Value → mh_T → Prop} {v : Int32} (hu : u.1 = RX11) (hd : decode u.2.1 pc = .ok (.putfield 192, 3)) (kk : ME g u (pc + 3) lv st (wI h 11 25 v) Q) : ME g u pc lv (.int v :: .ref 11 :: st) h Q := m_putI (ty := .int) (ci := 11) (k := 11) (j := 25) (q := (RX11, TX11, 40)) (ref := "NotAtOnceModel") hd rfl (by decide) (by decide) rfl rfl tinX11 tgX11 (by rw [hu]; exact tw_763) rfl tyX11 tyX11_ok nmX11 rfl (by decide +kernel) rfl rfl rfl kk
set_option maxRecDepth 100000 in
theorem pf_X11_195 {g : gT} {u : uT} {pc : Nat} {lv st : List Value} {h : mh_T} {Q : Option Value → mh_T → Prop} {v : Int32} (hu : u.1 = RX11) (hd : decode u.2.1 pc = .ok (.putfield 195, 3)) (kk : ME g u (pc + 3) lv st (wI h 11 26 v) Q) : ME g u pc lv (.int v :: .ref 11 :: st) h Q := m_putI (ty := .int) (ci := 11) (k := 11) (j := 26) (q := (RX11, TX11, 40)) (ref := "NotAtOnceModel") hd rfl (by decide) (by decide) rfl rfl tinX11 tgX11 (by rw [hu]; exact tw_764) rfl tyX11 tyX11_ok nmX11 rfl (by decide +kernel) rfl rfl rfl kk
set_option maxRecDepth 100000 in
theorem gf_X11_26 {g : gT} {u : uT} {pc : Nat} {lv st : List Value} {h : mh_T} {Q : Option Value → mh_T → Prop} (hu : u.1 = RX11) (hd : decode u.2.1 pc = .ok (.getfield 26, 3)) (kk : ME g u (pc + 3) lv (.ref 47 :: st) h Q) : ME g u pc lv (.ref 11 :: st) h Q := m_getR (k' := 47) (ci := 11) (k := 11) (j := 17) (q := (RX11, TX11, 40)) (ref := "NotAtOnceModel") hd rfl (by decide) (by decide) rfl rfl tinX11 tgX11 (by rw [hu]; exact tw_765) rfl rfl rfl (by decide) kk
set_option maxRecDepth 100000 in
theorem lk_X11_198 : mLk RX11 198 yX11_begins uX11_begins 3 := ⟨tw_766, tw_767, tw_689, by decide +kernel, Nat.le_of_ble_eq_true rfl⟩
set_option maxRecDepth 100000 in
theorem cl_X11_198 {g : gT} {u : uT} {pc : Nat} {lv st : List Value} {h : mh_T} {Q : Option Value → mh_T → Prop} {a1 a2 a3 : Value} (hu : u.1 = RX11) (hK : 6 < u.2.2.2.2) (hd : decode u.2.1 pc = .ok (.invokevirtual 198, 3)) (hst : (st.map fun v => v.category).sum ≤ 8) (hM : MC g yX11_begins uX11_begins [.ref 11, a1, a2, a3] h (fun v h' => ME g u (pc + 3) lv (v.toList ++ st) h' Q)) : ME g u pc lv (a3 :: a2 :: a1 :: .ref 11 :: st) h Q := m_callV (As := [a1, a2, a3]) (n := 3) (ci := 11) (k := 11) (q := (RX11, TX11, 40)) hd (by rw [hu]; exact lk_X11_198) tw_768 tw_769 rfl rfl (by decide) (by decide) rfl hK hst hM
set_option maxRecDepth 100000 in
theorem lk_X11_218 : mLk RX11 218 yX11_runLine uX11_runLine 0 := ⟨tw_770, tw_771, tw_689, by decide +kernel, Nat.le_of_ble_eq_true rfl⟩
set_option maxRecDepth 100000 in
theorem cl_X11_218 {g : gT} {u : uT} {pc : Nat} {lv st : List Value} {h : mh_T} {Q : Option Value → mh_T → Prop} (hu : u.1 = RX11) (hK : 8 < u.2.2.2.2) (hd : decode u.2.1 pc = .ok (.invokevirtual 218, 3)) (hst : (st.map fun v => v.category).sum ≤ 8) (hM : MC g yX11_runLine uX11_runLine [.ref 11] h (fun v h' => ME g u (pc + 3) lv (v.toList ++ st) h' Q)) : ME g u pc lv (.ref 11 :: st) h Q := m_callV (As := []) (n := 0) (ci := 11) (k := 11) (q := (RX11, TX11, 40)) hd (by rw [hu]; exact lk_X11_218) tw_772 tw_773 rfl rfl (by decide) (by decide) rfl hK hst hM
set_option maxRecDepth 100000 in
theorem lk_X11_215 : mLk RX11 215 yX11_rayLine uX11_rayLine 0 := ⟨tw_774, tw_775, tw_689, by decide +kernel, Nat.le_of_ble_eq_true rfl⟩
set_option maxRecDepth 100000 in
theorem cl_X11_215 {g : gT} {u : uT} {pc : Nat} {lv st : List Value} {h : mh_T} {Q : Option Value → mh_T → Prop} (hu : u.1 = RX11) (hK : 5 < u.2.2.2.2) (hd : decode u.2.1 pc = .ok (.invokevirtual 215, 3)) (hst : (st.map fun v => v.category).sum ≤ 8) (hM : MC g yX11_rayLine uX11_rayLine [.ref 11] h (fun v h' => ME g u (pc + 3) lv (v.toList ++ st) h' Q)) : ME g u pc lv (.ref 11 :: st) h Q := m_callV (As := []) (n := 0) (ci := 11) (k := 11) (q := (RX11, TX11, 40)) hd (by rw [hu]; exact lk_X11_215) tw_776 tw_777 rfl rfl (by decide) (by decide) rfl hK hst hM
set_option maxRecDepth 100000 in
theorem lk_X11_212 : mLk RX11 212 yX11_lineLine uX11_lineLine 0 := ⟨tw_778, tw_779, tw_689, by decide +kernel, Nat.le_of_ble_eq_true rfl⟩
set_option maxRecDepth 100000 in
theorem cl_X11_212 {g : gT} {u : uT} {pc : Nat} {lv st : List Value} {h : mh_T} {Q : Option Value → mh_T → Prop} (hu : u.1 = RX11) (hK : 9 < u.2.2.2.2) (hd : decode u.2.1 pc = .ok (.invokevirtual 212, 3)) (hst : (st.map fun v => v.category).sum ≤ 8) (hM : MC g yX11_lineLine uX11_lineLine [.ref 11] h (fun v h' => ME g u (pc + 3) lv (v.toList ++ st) h' Q)) : ME g u pc lv (.ref 11 :: st) h Q := m_callV (As := []) (n := 0) (ci := 11) (k := 11) (q := (RX11, TX11, 40)) hd (by rw [hu]; exact lk_X11_212) tw_780 tw_781 rfl rfl (by decide) (by decide) rfl hK hst hM
set_option maxRecDepth 100000 in
theorem lk_X11_209 : mLk RX11 209 yX11_setLine uX11_setLine 0 := ⟨tw_782, tw_783, tw_689, by decide +kernel, Nat.le_of_ble_eq_true rfl⟩
set_option maxRecDepth 100000 in
theorem cl_X11_209 {g : gT} {u : uT} {pc : Nat} {lv st : List Value} {h : mh_T} {Q : Option Value → mh_T → Prop} (hu : u.1 = RX11) (hK : 9 < u.2.2.2.2) (hd : decode u.2.1 pc = .ok (.invokevirtual 209, 3)) (hst : (st.map fun v => v.category).sum ≤ 8) (hM : MC g yX11_setLine uX11_setLine [.ref 11] h (fun v h' => ME g u (pc + 3) lv (v.toList ++ st) h' Q)) : ME g u pc lv (.ref 11 :: st) h Q := m_callV (As := []) (n := 0) (ci := 11) (k := 11) (q := (RX11, TX11, 40)) hd (by rw [hu]; exact lk_X11_209) tw_784 tw_785 rfl rfl (by decide) (by decide) rfl hK hst hM
set_option maxRecDepth 100000 in
theorem lk_X11_205 : mLk RX11 205 yX11_newNames uX11_newNames 3 := ⟨tw_786, tw_787, tw_689, by decide +kernel, Nat.le_of_ble_eq_true rfl⟩
set_option maxRecDepth 100000 in
theorem cl_X11_205 {g : gT} {u : uT} {pc : Nat} {lv st : List Value} {h : mh_T} {Q : Option Value → mh_T → Prop} {a1 a2 a3 : Value} (hu : u.1 = RX11) (hK : 7 < u.2.2.2.2) (hd : decode u.2.1 pc = .ok (.invokevirtual 205, 3)) (hst : (st.map fun v => v.category).sum ≤ 8) (hM : MC g yX11_newNames uX11_newNames [.ref 11, a1, a2, a3] h (fun v h' => ME g u (pc + 3) lv (v.toList ++ st) h' Q)) : ME g u pc lv (a3 :: a2 :: a1 :: .ref 11 :: st) h Q := m_callV (As := [a1, a2, a3]) (n := 3) (ci := 11) (k := 11) (q := (RX11, TX11, 40)) hd (by rw [hu]; exact lk_X11_205) tw_788 tw_789 rfl rfl (by decide) (by decide) rfl hK hst hM
set_option maxRecDepth 100000 in
theorem lk_X11_202 : mLk RX11 202 yX11_lawLine uX11_lawLine 0 := ⟨tw_790, tw_791, tw_689, by decide +kernel, Nat.le_of_ble_eq_true rfl⟩
set_option maxRecDepth 100000 in
theorem cl_X11_202 {g : gT} {u : uT} {pc : Nat} {lv st : List Value} {h : mh_T} {Q : Option Value → mh_T → Prop} (hu : u.1 = RX11) (hK : 8 < u.2.2.2.2) (hd : decode u.2.1 pc = .ok (.invokevirtual 202, 3)) (hst : (st.map fun v => v.category).sum ≤ 8) (hM : MC g yX11_lawLine uX11_lawLine [.ref 11] h (fun v h' => ME g u (pc + 3) lv (v.toList ++ st) h' Q)) : ME g u pc lv (.ref 11 :: st) h Q := m_callV (As := []) (n := 0) (ci := 11) (k := 11) (q := (RX11, TX11, 40)) hd (by rw [hu]; exact lk_X11_202) tw_792 tw_793 rfl rfl (by decide) (by decide) rfl hK hst hM
set_option maxRecDepth 100000 in
theorem lk_X11_223 : mLk RX11 223 yX11_pass uX11_pass 1 := ⟨tw_794, tw_795, tw_689, by decide +kernel, Nat.le_of_ble_eq_true rfl⟩
set_option maxRecDepth 100000 in
theorem cl_X11_223 {g : gT} {u : uT} {pc : Nat} {lv st : List Value} {h : mh_T} {Q : Option Value → mh_T → Prop} {a1 : Value} (hu : u.1 = RX11) (hK : 7 < u.2.2.2.2) (hd : decode u.2.1 pc = .ok (.invokevirtual 223, 3)) (hst : (st.map fun v => v.category).sum ≤ 8) (hM : MC g yX11_pass uX11_pass [.ref 11, a1] h (fun v h' => ME g u (pc + 3) lv (v.toList ++ st) h' Q)) : ME g u pc lv (a1 :: .ref 11 :: st) h Q := m_callV (As := [a1]) (n := 1) (ci := 11) (k := 11) (q := (RX11, TX11, 40)) hd (by rw [hu]; exact lk_X11_223) tw_796 tw_797 rfl rfl (by decide) (by decide) rfl hK hst hM
set_option maxRecDepth 100000 in
theorem lk_X11_227 : mLk RX11 227 yX11_number uX11_number 2 := ⟨tw_798, tw_799, tw_689, by decide +kernel, Nat.le_of_ble_eq_true rfl⟩
set_option maxRecDepth 100000 in
theorem cl_X11_227 {g : gT} {u : uT} {pc : Nat} {lv st : List Value} {h : mh_T} {Q : Option Value → mh_T → Prop} {a1 a2 : Value} (hu : u.1 = RX11) (hK : 3 < u.2.2.2.2) (hd : decode u.2.1 pc = .ok (.invokevirtual 227, 3)) (hst : (st.map fun v => v.category).sum ≤ 8) (hM : MC g yX11_number uX11_number [.ref 11, a1, a2] h (fun v h' => ME g u (pc + 3) lv (v.toList ++ st) h' Q)) : ME g u pc lv (a2 :: a1 :: .ref 11 :: st) h Q := m_callV (As := [a1, a2]) (n := 2) (ci := 11) (k := 11) (q := (RX11, TX11, 40)) hd (by rw [hu]; exact lk_X11_227) tw_800 tw_801 rfl rfl (by decide) (by decide) rfl hK hst hM
set_option maxRecDepth 100000 in
theorem lk_X11_231 : mLk RX11 231 yX11_passed uX11_passed 2 := ⟨tw_802, tw_803, tw_689, by decide +kernel, Nat.le_of_ble_eq_true rfl⟩
set_option maxRecDepth 100000 in
theorem cl_X11_231 {g : gT} {u : uT} {pc : Nat} {lv st : List Value} {h : mh_T} {Q : Option Value → mh_T → Prop} {a1 a2 : Value} (hu : u.1 = RX11) (hK : 8 < u.2.2.2.2) (hd : decode u.2.1 pc = .ok (.invokevirtual 231, 3)) (hst : (st.map fun v => v.category).sum ≤ 8) (hM : MC g yX11_passed uX11_passed [.ref 11, a1, a2] h (fun v h' => ME g u (pc + 3) lv (v.toList ++ st) h' Q)) : ME g u pc lv (a2 :: a1 :: .ref 11 :: st) h Q := m_callV (As := [a1, a2]) (n := 2) (ci := 11) (k := 11) (q := (RX11, TX11, 40)) hd (by rw [hu]; exact lk_X11_231) tw_804 tw_805 rfl rfl (by decide) (by decide) rfl hK hst hM
set_option maxRecDepth 100000 in
theorem lk_X11_235 : mLk RX11 235 yX11_mustComma uX11_mustComma 0 := ⟨tw_806, tw_807, tw_689, by decide +kernel, Nat.le_of_ble_eq_true rfl⟩
set_option maxRecDepth 100000 in
theorem cl_X11_235 {g : gT} {u : uT} {pc : Nat} {lv st : List Value} {h : mh_T} {Q : Option Value → mh_T → Prop} (hu : u.1 = RX11) (hK : 4 < u.2.2.2.2) (hd : decode u.2.1 pc = .ok (.invokevirtual 235, 3)) (hst : (st.map fun v => v.category).sum ≤ 8) (hM : MC g yX11_mustComma uX11_mustComma [.ref 11] h (fun v h' => ME g u (pc + 3) lv (v.toList ++ st) h' Q)) : ME g u pc lv (.ref 11 :: st) h Q := m_callV (As := []) (n := 0) (ci := 11) (k := 11) (q := (RX11, TX11, 40)) hd (by rw [hu]; exact lk_X11_235) tw_808 tw_809 rfl rfl (by decide) (by decide) rfl hK hst hM
set_option maxRecDepth 100000 in
theorem gf_X11_111 {g : gT} {u : uT} {pc : Nat} {lv st : List Value} {h : mh_T} {Q : Option Value → mh_T → Prop} (hu : u.1 = RX11) (hd : decode u.2.1 pc = .ok (.getfield 111, 3)) (kk : ME g u (pc + 3) lv (.int (mI h 11 9) :: st) h Q) : ME g u pc lv (.ref 11 :: st) h Q := m_getI (ci := 11) (k := 11) (j := 9) (q := (RX11, TX11, 40)) (ref := "NotAtOnceModel") hd rfl (by decide) (by decide) rfl rfl tinX11 tgX11 (by rw [hu]; exact tw_701) rfl rfl kk
set_option maxRecDepth 100000 in
theorem gf_X11_72 {g : gT} {u : uT} {pc : Nat} {lv st : List Value} {h : mh_T} {Q : Option Value → mh_T → Prop} (hu : u.1 = RX11) (hd : decode u.2.1 pc = .ok (.getfield 72, 3)) (kk : ME g u (pc + 3) lv (.int (mI h 11 11) :: st) h Q) : ME g u pc lv (.ref 11 :: st) h Q := m_getI (ci := 11) (k := 11) (j := 11) (q := (RX11, TX11, 40)) (ref := "NotAtOnceModel") hd rfl (by decide) (by decide) rfl rfl tinX11 tgX11 (by rw [hu]; exact tw_679) rfl rfl kk
set_option maxRecDepth 100000 in
theorem gf_X11_13 {g : gT} {u : uT} {pc : Nat} {lv st : List Value} {h : mh_T} {Q : Option Value → mh_T → Prop} (hu : u.1 = RX11) (hd : decode u.2.1 pc = .ok (.getfield 13, 3)) (kk : ME g u (pc + 3) lv (.int (mI h 11 10) :: st) h Q) : ME g u pc lv (.ref 11 :: st) h Q := m_getI (ci := 11) (k := 11) (j := 10) (q := (RX11, TX11, 40)) (ref := "NotAtOnceModel") hd rfl (by decide) (by decide) rfl rfl tinX11 tgX11 (by rw [hu]; exact tw_702) rfl rfl kk
set_option maxRecDepth 100000 in
theorem gf_X11_183 {g : gT} {u : uT} {pc : Nat} {lv st : List Value} {h : mh_T} {Q : Option Value → mh_T → Prop} (hu : u.1 = RX11) (hd : decode u.2.1 pc = .ok (.getfield 183, 3)) (kk : ME g u (pc + 3) lv (.int (mI h 11 14) :: st) h Q) : ME g u pc lv (.ref 11 :: st) h Q := m_getI (ci := 11) (k := 11) (j := 14) (q := (RX11, TX11, 40)) (ref := "NotAtOnceModel") hd rfl (by decide) (by decide) rfl rfl tinX11 tgX11 (by rw [hu]; exact tw_757) rfl rfl kk
set_option maxRecDepth 100000 in
theorem lk_X11_244 : mLk RX11 244 yX11_isSet uX11_isSet 1 := ⟨tw_810, tw_811, tw_689, by decide +kernel, Nat.le_of_ble_eq_true rfl⟩
set_option maxRecDepth 100000 in
theorem cl_X11_244 {g : gT} {u : uT} {pc : Nat} {lv st : List Value} {h : mh_T} {Q : Option Value → mh_T → Prop} {a1 : Value} (hu : u.1 = RX11) (hK : 2 < u.2.2.2.2) (hd : decode u.2.1 pc = .ok (.invokevirtual 244, 3)) (hst : (st.map fun v => v.category).sum ≤ 8) (hM : MC g yX11_isSet uX11_isSet [.ref 11, a1] h (fun v h' => ME g u (pc + 3) lv (v.toList ++ st) h' Q)) : ME g u pc lv (a1 :: .ref 11 :: st) h Q := m_callV (As := [a1]) (n := 1) (ci := 11) (k := 11) (q := (RX11, TX11, 40)) hd (by rw [hu]; exact lk_X11_244) tw_812 tw_813 rfl rfl (by decide) (by decide) rfl hK hst hM
set_option maxRecDepth 100000 in
theorem lk_X11_247 : mLk RX11 247 yX11_outcomes uX11_outcomes 2 := ⟨tw_814, tw_815, tw_689, by decide +kernel, Nat.le_of_ble_eq_true rfl⟩
set_option maxRecDepth 100000 in
theorem cl_X11_247 {g : gT} {u : uT} {pc : Nat} {lv st : List Value} {h : mh_T} {Q : Option Value → mh_T → Prop} {a1 a2 : Value} (hu : u.1 = RX11) (hK : 1 < u.2.2.2.2) (hd : decode u.2.1 pc = .ok (.invokestatic 247, 3)) (hst : (st.map fun v => v.category).sum ≤ 8) (hM : MC g yX11_outcomes uX11_outcomes [a1, a2] h (fun v h' => ME g u (pc + 3) lv (v.toList ++ st) h' Q)) : ME g u pc lv (a2 :: a1 :: st) h Q := m_callS (As := [a1, a2]) (n := 2) hd (by rw [hu]; exact lk_X11_247) tw_816 rfl hK hst hM
set_option maxRecDepth 100000 in
theorem gf_X11_254 {g : gT} {u : uT} {pc : Nat} {lv st : List Value} {h : mh_T} {Q : Option Value → mh_T → Prop} (hu : u.1 = RX11) (hd : decode u.2.1 pc = .ok (.getfield 254, 3)) (kk : ME g u (pc + 3) lv (.int (mI h 11 30) :: st) h Q) : ME g u pc lv (.ref 11 :: st) h Q := m_getI (ci := 11) (k := 11) (j := 30) (q := (RX11, TX11, 40)) (ref := "NotAtOnceModel") hd rfl (by decide) (by decide) rfl rfl tinX11 tgX11 (by rw [hu]; exact tw_817) rfl rfl kk
set_option maxRecDepth 100000 in
theorem gf_X11_47 {g : gT} {u : uT} {pc : Nat} {lv st : List Value} {h : mh_T} {Q : Option Value → mh_T → Prop} (hu : u.1 = RX11) (hd : decode u.2.1 pc = .ok (.getfield 47, 3)) (kk : ME g u (pc + 3) lv (.ref 54 :: st) h Q) : ME g u pc lv (.ref 11 :: st) h Q := m_getR (k' := 54) (ci := 11) (k := 11) (j := 27) (q := (RX11, TX11, 40)) (ref := "NotAtOnceModel") hd rfl (by decide) (by decide) rfl rfl tinX11 tgX11 (by rw [hu]; exact tw_818) rfl rfl rfl (by decide) kk
set_option maxRecDepth 100000 in
theorem gf_X11_257 {g : gT} {u : uT} {pc : Nat} {lv st : List Value} {h : mh_T} {Q : Option Value → mh_T → Prop} (hu : u.1 = RX11) (hd : decode u.2.1 pc = .ok (.getfield 257, 3)) (kk : ME g u (pc + 3) lv (.int (mI h 11 31) :: st) h Q) : ME g u pc lv (.ref 11 :: st) h Q := m_getI (ci := 11) (k := 11) (j := 31) (q := (RX11, TX11, 40)) (ref := "NotAtOnceModel") hd rfl (by decide) (by decide) rfl rfl tinX11 tgX11 (by rw [hu]; exact tw_819) rfl rfl kk
set_option maxRecDepth 100000 in
theorem gf_X11_51 {g : gT} {u : uT} {pc : Nat} {lv st : List Value} {h : mh_T} {Q : Option Value → mh_T → Prop} (hu : u.1 = RX11) (hd : decode u.2.1 pc = .ok (.getfield 51, 3)) (kk : ME g u (pc + 3) lv (.ref 55 :: st) h Q) : ME g u pc lv (.ref 11 :: st) h Q := m_getR (k' := 55) (ci := 11) (k := 11) (j := 28) (q := (RX11, TX11, 40)) (ref := "NotAtOnceModel") hd rfl (by decide) (by decide) rfl rfl tinX11 tgX11 (by rw [hu]; exact tw_820) rfl rfl rfl (by decide) kk
set_option maxRecDepth 100000 in
theorem lk_X11_251 : mLk RX11 251 yX11_hiddenMany uX11_hiddenMany 0 := ⟨tw_821, tw_822, tw_689, by decide +kernel, Nat.le_of_ble_eq_true rfl⟩
set_option maxRecDepth 100000 in
theorem cl_X11_251 {g : gT} {u : uT} {pc : Nat} {lv st : List Value} {h : mh_T} {Q : Option Value → mh_T → Prop} (hu : u.1 = RX11) (hK : 1 < u.2.2.2.2) (hd : decode u.2.1 pc = .ok (.invokevirtual 251, 3)) (hst : (st.map fun v => v.category).sum ≤ 8) (hM : MC g yX11_hiddenMany uX11_hiddenMany [.ref 11] h (fun v h' => ME g u (pc + 3) lv (v.toList ++ st) h' Q)) : ME g u pc lv (.ref 11 :: st) h Q := m_callV (As := []) (n := 0) (ci := 11) (k := 11) (q := (RX11, TX11, 40)) hd (by rw [hu]; exact lk_X11_251) tw_823 tw_824 rfl rfl (by decide) (by decide) rfl hK hst hM
set_option maxRecDepth 100000 in
theorem pf_X11_254 {g : gT} {u : uT} {pc : Nat} {lv st : List Value} {h : mh_T} {Q : Option Value → mh_T → Prop} {v : Int32} (hu : u.1 = RX11) (hd : decode u.2.1 pc = .ok (.putfield 254, 3)) (kk : ME g u (pc + 3) lv st (wI h 11 30 v) Q) : ME g u pc lv (.int v :: .ref 11 :: st) h Q := m_putI (ty := .int) (ci := 11) (k := 11) (j := 30) (q := (RX11, TX11, 40)) (ref := "NotAtOnceModel") hd rfl (by decide) (by decide) rfl rfl tinX11 tgX11 (by rw [hu]; exact tw_817) rfl tyX11 tyX11_ok nmX11 rfl (by decide +kernel) rfl rfl rfl kk
set_option maxRecDepth 100000 in
theorem pf_X11_257 {g : gT} {u : uT} {pc : Nat} {lv st : List Value} {h : mh_T} {Q : Option Value → mh_T → Prop} {v : Int32} (hu : u.1 = RX11) (hd : decode u.2.1 pc = .ok (.putfield 257, 3)) (kk : ME g u (pc + 3) lv st (wI h 11 31 v) Q) : ME g u pc lv (.int v :: .ref 11 :: st) h Q := m_putI (ty := .int) (ci := 11) (k := 11) (j := 31) (q := (RX11, TX11, 40)) (ref := "NotAtOnceModel") hd rfl (by decide) (by decide) rfl rfl tinX11 tgX11 (by rw [hu]; exact tw_819) rfl tyX11 tyX11_ok nmX11 rfl (by decide +kernel) rfl rfl rfl kk
set_option maxRecDepth 100000 in
theorem lk_X11_260 : mLk RX11 260 yX11_cell uX11_cell 2 := ⟨tw_825, tw_826, tw_689, by decide +kernel, Nat.le_of_ble_eq_true rfl⟩
set_option maxRecDepth 100000 in
theorem cl_X11_260 {g : gT} {u : uT} {pc : Nat} {lv st : List Value} {h : mh_T} {Q : Option Value → mh_T → Prop} {a1 a2 : Value} (hu : u.1 = RX11) (hK : 1 < u.2.2.2.2) (hd : decode u.2.1 pc = .ok (.invokestatic 260, 3)) (hst : (st.map fun v => v.category).sum ≤ 8) (hM : MC g yX11_cell uX11_cell [a1, a2] h (fun v h' => ME g u (pc + 3) lv (v.toList ++ st) h' Q)) : ME g u pc lv (a2 :: a1 :: st) h Q := m_callS (As := [a1, a2]) (n := 2) hd (by rw [hu]; exact lk_X11_260) tw_827 rfl hK hst hM
set_option maxRecDepth 100000 in
theorem lk_X11_263 : mLk RX11 263 yX11_fitted uX11_fitted 2 := ⟨tw_828, tw_829, tw_689, by decide +kernel, Nat.le_of_ble_eq_true rfl⟩
set_option maxRecDepth 100000 in
theorem cl_X11_263 {g : gT} {u : uT} {pc : Nat} {lv st : List Value} {h : mh_T} {Q : Option Value → mh_T → Prop} {a1 a2 : Value} (hu : u.1 = RX11) (hK : 1 < u.2.2.2.2) (hd : decode u.2.1 pc = .ok (.invokevirtual 263, 3)) (hst : (st.map fun v => v.category).sum ≤ 8) (hM : MC g yX11_fitted uX11_fitted [.ref 11, a1, a2] h (fun v h' => ME g u (pc + 3) lv (v.toList ++ st) h' Q)) : ME g u pc lv (a2 :: a1 :: .ref 11 :: st) h Q := m_callV (As := [a1, a2]) (n := 2) (ci := 11) (k := 11) (q := (RX11, TX11, 40)) hd (by rw [hu]; exact lk_X11_263) tw_830 tw_831 rfl rfl (by decide) (by decide) rfl hK hst hM
set_option maxRecDepth 100000 in
theorem pf_X11_268 {g : gT} {u : uT} {pc : Nat} {lv st : List Value} {h : mh_T} {Q : Option Value → mh_T → Prop} {v : Int64} (hu : u.1 = RX11) (hd : decode u.2.1 pc = .ok (.putfield 268, 3)) (kk : ME g u (pc + 3) lv st (wL h 11 29 v) Q) : ME g u pc lv (.long v :: .ref 11 :: st) h Q := m_putL (ty := .long) (ci := 11) (k := 11) (j := 29) (q := (RX11, TX11, 40)) (ref := "NotAtOnceModel") hd rfl (by decide) (by decide) rfl rfl tinX11 tgX11 (by rw [hu]; exact tw_832) rfl tyX11 tyX11_ok nmX11 rfl (by decide +kernel) rfl rfl rfl kk
set_option maxRecDepth 100000 in
theorem gf_X11_268 {g : gT} {u : uT} {pc : Nat} {lv st : List Value} {h : mh_T} {Q : Option Value → mh_T → Prop} (hu : u.1 = RX11) (hd : decode u.2.1 pc = .ok (.getfield 268, 3)) (kk : ME g u (pc + 3) lv (.long (mL h 11 29) :: st) h Q) : ME g u pc lv (.ref 11 :: st) h Q := m_getL (ci := 11) (k := 11) (j := 29) (q := (RX11, TX11, 40)) (ref := "NotAtOnceModel") hd rfl (by decide) (by decide) rfl rfl tinX11 tgX11 (by rw [hu]; exact tw_832) rfl rfl kk
set_option maxRecDepth 100000 in
theorem lk_X11_272 : mLk RX11 272 yX11_bounding uX11_bounding 1 := ⟨tw_834, tw_835, tw_689, by decide +kernel, Nat.le_of_ble_eq_true rfl⟩
set_option maxRecDepth 100000 in
theorem cl_X11_272 {g : gT} {u : uT} {pc : Nat} {lv st : List Value} {h : mh_T} {Q : Option Value → mh_T → Prop} {a1 : Value} (hu : u.1 = RX11) (hK : 2 < u.2.2.2.2) (hd : decode u.2.1 pc = .ok (.invokevirtual 272, 3)) (hst : (st.map fun v => v.category).sum ≤ 8) (hM : MC g yX11_bounding uX11_bounding [.ref 11, a1] h (fun v h' => ME g u (pc + 3) lv (v.toList ++ st) h' Q)) : ME g u pc lv (a1 :: .ref 11 :: st) h Q := m_callV (As := [a1]) (n := 1) (ci := 11) (k := 11) (q := (RX11, TX11, 40)) hd (by rw [hu]; exact lk_X11_272) tw_836 tw_837 rfl rfl (by decide) (by decide) rfl hK hst hM
set_option maxRecDepth 100000 in
theorem lk_X11_275 : mLk RX11 275 yX11_turnOver uX11_turnOver 2 := ⟨tw_838, tw_839, tw_689, by decide +kernel, Nat.le_of_ble_eq_true rfl⟩
set_option maxRecDepth 100000 in
theorem cl_X11_275 {g : gT} {u : uT} {pc : Nat} {lv st : List Value} {h : mh_T} {Q : Option Value → mh_T → Prop} {a1 a2 : Value} (hu : u.1 = RX11) (hK : 2 < u.2.2.2.2) (hd : decode u.2.1 pc = .ok (.invokevirtual 275, 3)) (hst : (st.map fun v => v.category).sum ≤ 8) (hM : MC g yX11_turnOver uX11_turnOver [.ref 11, a1, a2] h (fun v h' => ME g u (pc + 3) lv (v.toList ++ st) h' Q)) : ME g u pc lv (a2 :: a1 :: .ref 11 :: st) h Q := m_callV (As := [a1, a2]) (n := 2) (ci := 11) (k := 11) (q := (RX11, TX11, 40)) hd (by rw [hu]; exact lk_X11_275) tw_840 tw_841 rfl rfl (by decide) (by decide) rfl hK hst hM
set_option maxRecDepth 100000 in
theorem lk_X11_278 : mLk RX11 278 yX11_common uX11_common 2 := ⟨tw_842, tw_843, tw_689, by decide +kernel, Nat.le_of_ble_eq_true rfl⟩
set_option maxRecDepth 100000 in
theorem cl_X11_278 {g : gT} {u : uT} {pc : Nat} {lv st : List Value} {h : mh_T} {Q : Option Value → mh_T → Prop} {a1 a2 : Value} (hu : u.1 = RX11) (hK : 1 < u.2.2.2.2) (hd : decode u.2.1 pc = .ok (.invokestatic 278, 3)) (hst : (st.map fun v => v.category).sum ≤ 8) (hM : MC g yX11_common uX11_common [a1, a2] h (fun v h' => ME g u (pc + 3) lv (v.toList ++ st) h' Q)) : ME g u pc lv (a2 :: a1 :: st) h Q := m_callS (As := [a1, a2]) (n := 2) hd (by rw [hu]; exact lk_X11_278) tw_844 rfl hK hst hM
set_option maxRecDepth 100000 in
theorem lk_X11_282 : mLk RX11 282 yX11_layTab uX11_layTab 0 := ⟨tw_845, tw_846, tw_689, by decide +kernel, Nat.le_of_ble_eq_true rfl⟩
set_option maxRecDepth 100000 in
theorem cl_X11_282 {g : gT} {u : uT} {pc : Nat} {lv st : List Value} {h : mh_T} {Q : Option Value → mh_T → Prop} (hu : u.1 = RX11) (hK : 2 < u.2.2.2.2) (hd : decode u.2.1 pc = .ok (.invokevirtual 282, 3)) (hst : (st.map fun v => v.category).sum ≤ 8) (hM : MC g yX11_layTab uX11_layTab [.ref 11] h (fun v h' => ME g u (pc + 3) lv (v.toList ++ st) h' Q)) : ME g u pc lv (.ref 11 :: st) h Q := m_callV (As := []) (n := 0) (ci := 11) (k := 11) (q := (RX11, TX11, 40)) hd (by rw [hu]; exact lk_X11_282) tw_847 tw_848 rfl rfl (by decide) (by decide) rfl hK hst hM
set_option maxRecDepth 100000 in
theorem lk_X11_285 : mLk RX11 285 yX11_goesUp uX11_goesUp 1 := ⟨tw_849, tw_850, tw_689, by decide +kernel, Nat.le_of_ble_eq_true rfl⟩
set_option maxRecDepth 100000 in
theorem cl_X11_285 {g : gT} {u : uT} {pc : Nat} {lv st : List Value} {h : mh_T} {Q : Option Value → mh_T → Prop} {a1 : Value} (hu : u.1 = RX11) (hK : 3 < u.2.2.2.2) (hd : decode u.2.1 pc = .ok (.invokevirtual 285, 3)) (hst : (st.map fun v => v.category).sum ≤ 8) (hM : MC g yX11_goesUp uX11_goesUp [.ref 11, a1] h (fun v h' => ME g u (pc + 3) lv (v.toList ++ st) h' Q)) : ME g u pc lv (a1 :: .ref 11 :: st) h Q := m_callV (As := [a1]) (n := 1) (ci := 11) (k := 11) (q := (RX11, TX11, 40)) hd (by rw [hu]; exact lk_X11_285) tw_851 tw_852 rfl rfl (by decide) (by decide) rfl hK hst hM
set_option maxRecDepth 100000 in
theorem lk_X11_289 : mLk RX11 289 yX11_isMixed uX11_isMixed 0 := ⟨tw_853, tw_854, tw_689, by decide +kernel, Nat.le_of_ble_eq_true rfl⟩
set_option maxRecDepth 100000 in
theorem cl_X11_289 {g : gT} {u : uT} {pc : Nat} {lv st : List Value} {h : mh_T} {Q : Option Value → mh_T → Prop} (hu : u.1 = RX11) (hK : 4 < u.2.2.2.2) (hd : decode u.2.1 pc = .ok (.invokevirtual 289, 3)) (hst : (st.map fun v => v.category).sum ≤ 8) (hM : MC g yX11_isMixed uX11_isMixed [.ref 11] h (fun v h' => ME g u (pc + 3) lv (v.toList ++ st) h' Q)) : ME g u pc lv (.ref 11 :: st) h Q := m_callV (As := []) (n := 0) (ci := 11) (k := 11) (q := (RX11, TX11, 40)) hd (by rw [hu]; exact lk_X11_289) tw_855 tw_856 rfl rfl (by decide) (by decide) rfl hK hst hM
set_option maxRecDepth 100000 in
theorem lk_X11_292 : mLk RX11 292 yX11_lowest uX11_lowest 3 := ⟨tw_857, tw_858, tw_689, by decide +kernel, Nat.le_of_ble_eq_true rfl⟩
set_option maxRecDepth 100000 in
theorem cl_X11_292 {g : gT} {u : uT} {pc : Nat} {lv st : List Value} {h : mh_T} {Q : Option Value → mh_T → Prop} {a1 a2 a3 : Value} (hu : u.1 = RX11) (hK : 2 < u.2.2.2.2) (hd : decode u.2.1 pc = .ok (.invokestatic 292, 3)) (hst : (st.map fun v => v.category).sum ≤ 8) (hM : MC g yX11_lowest uX11_lowest [a1, a2, a3] h (fun v h' => ME g u (pc + 3) lv (v.toList ++ st) h' Q)) : ME g u pc lv (a3 :: a2 :: a1 :: st) h Q := m_callS (As := [a1, a2, a3]) (n := 3) hd (by rw [hu]; exact lk_X11_292) tw_859 rfl hK hst hM
set_option maxRecDepth 100000 in
theorem lk_X11_296 : mLk RX11 296 yX11_isLook uX11_isLook 1 := ⟨tw_860, tw_861, tw_689, by decide +kernel, Nat.le_of_ble_eq_true rfl⟩
set_option maxRecDepth 100000 in
theorem cl_X11_296 {g : gT} {u : uT} {pc : Nat} {lv st : List Value} {h : mh_T} {Q : Option Value → mh_T → Prop} {a1 : Value} (hu : u.1 = RX11) (hK : 2 < u.2.2.2.2) (hd : decode u.2.1 pc = .ok (.invokevirtual 296, 3)) (hst : (st.map fun v => v.category).sum ≤ 8) (hM : MC g yX11_isLook uX11_isLook [.ref 11, a1] h (fun v h' => ME g u (pc + 3) lv (v.toList ++ st) h' Q)) : ME g u pc lv (a1 :: .ref 11 :: st) h Q := m_callV (As := [a1]) (n := 1) (ci := 11) (k := 11) (q := (RX11, TX11, 40)) hd (by rw [hu]; exact lk_X11_296) tw_862 tw_863 rfl rfl (by decide) (by decide) rfl hK hst hM
set_option maxRecDepth 100000 in
theorem lk_X11_299 : mLk RX11 299 yX11_isBit uX11_isBit 1 := ⟨tw_864, tw_865, tw_689, by decide +kernel, Nat.le_of_ble_eq_true rfl⟩
set_option maxRecDepth 100000 in
theorem cl_X11_299 {g : gT} {u : uT} {pc : Nat} {lv st : List Value} {h : mh_T} {Q : Option Value → mh_T → Prop} {a1 : Value} (hu : u.1 = RX11) (hK : 1 < u.2.2.2.2) (hd : decode u.2.1 pc = .ok (.invokestatic 299, 3)) (hst : (st.map fun v => v.category).sum ≤ 8) (hM : MC g yX11_isBit uX11_isBit [a1] h (fun v h' => ME g u (pc + 3) lv (v.toList ++ st) h' Q)) : ME g u pc lv (a1 :: st) h Q := m_callS (As := [a1]) (n := 1) hd (by rw [hu]; exact lk_X11_299) tw_866 rfl hK hst hM
set_option maxRecDepth 100000 in
theorem lk_X11_302 : mLk RX11 302 yX11_fitsAll uX11_fitsAll 2 := ⟨tw_867, tw_868, tw_689, by decide +kernel, Nat.le_of_ble_eq_true rfl⟩
set_option maxRecDepth 100000 in
theorem cl_X11_302 {g : gT} {u : uT} {pc : Nat} {lv st : List Value} {h : mh_T} {Q : Option Value → mh_T → Prop} {a1 a2 : Value} (hu : u.1 = RX11) (hK : 2 < u.2.2.2.2) (hd : decode u.2.1 pc = .ok (.invokevirtual 302, 3)) (hst : (st.map fun v => v.category).sum ≤ 8) (hM : MC g yX11_fitsAll uX11_fitsAll [.ref 11, a1, a2] h (fun v h' => ME g u (pc + 3) lv (v.toList ++ st) h' Q)) : ME g u pc lv (a2 :: a1 :: .ref 11 :: st) h Q := m_callV (As := [a1, a2]) (n := 2) (ci := 11) (k := 11) (q := (RX11, TX11, 40)) hd (by rw [hu]; exact lk_X11_302) tw_869 tw_870 rfl rfl (by decide) (by decide) rfl hK hst hM
set_option maxRecDepth 100000 in
theorem lk_X11_305 : mLk RX11 305 yX11_isOutcome uX11_isOutcome 2 := ⟨tw_871, tw_872, tw_689, by decide +kernel, Nat.le_of_ble_eq_true rfl⟩
set_option maxRecDepth 100000 in
theorem cl_X11_305 {g : gT} {u : uT} {pc : Nat} {lv st : List Value} {h : mh_T} {Q : Option Value → mh_T → Prop} {a1 a2 : Value} (hu : u.1 = RX11) (hK : 3 < u.2.2.2.2) (hd : decode u.2.1 pc = .ok (.invokevirtual 305, 3)) (hst : (st.map fun v => v.category).sum ≤ 8) (hM : MC g yX11_isOutcome uX11_isOutcome [.ref 11, a1, a2] h (fun v h' => ME g u (pc + 3) lv (v.toList ++ st) h' Q)) : ME g u pc lv (a2 :: a1 :: .ref 11 :: st) h Q := m_callV (As := [a1, a2]) (n := 2) (ci := 11) (k := 11) (q := (RX11, TX11, 40)) hd (by rw [hu]; exact lk_X11_305) tw_873 tw_874 rfl rfl (by decide) (by decide) rfl hK hst hM
set_option maxRecDepth 100000 in
theorem lk_X11_308 : mLk RX11 308 yX11_doesExtend uX11_doesExtend 2 := ⟨tw_875, tw_876, tw_689, by decide +kernel, Nat.le_of_ble_eq_true rfl⟩
set_option maxRecDepth 100000 in
theorem cl_X11_308 {g : gT} {u : uT} {pc : Nat} {lv st : List Value} {h : mh_T} {Q : Option Value → mh_T → Prop} {a1 a2 : Value} (hu : u.1 = RX11) (hK : 3 < u.2.2.2.2) (hd : decode u.2.1 pc = .ok (.invokevirtual 308, 3)) (hst : (st.map fun v => v.category).sum ≤ 8) (hM : MC g yX11_doesExtend uX11_doesExtend [.ref 11, a1, a2] h (fun v h' => ME g u (pc + 3) lv (v.toList ++ st) h' Q)) : ME g u pc lv (a2 :: a1 :: .ref 11 :: st) h Q := m_callV (As := [a1, a2]) (n := 2) (ci := 11) (k := 11) (q := (RX11, TX11, 40)) hd (by rw [hu]; exact lk_X11_308) tw_877 tw_878 rfl rfl (by decide) (by decide) rfl hK hst hM
set_option maxRecDepth 100000 in
theorem lk_X11_311 : mLk RX11 311 yX11_fittingAnswer uX11_fittingAnswer 1 := ⟨tw_879, tw_880, tw_689, by decide +kernel, Nat.le_of_ble_eq_true rfl⟩
set_option maxRecDepth 100000 in
theorem cl_X11_311 {g : gT} {u : uT} {pc : Nat} {lv st : List Value} {h : mh_T} {Q : Option Value → mh_T → Prop} {a1 : Value} (hu : u.1 = RX11) (hK : 3 < u.2.2.2.2) (hd : decode u.2.1 pc = .ok (.invokevirtual 311, 3)) (hst : (st.map fun v => v.category).sum ≤ 8) (hM : MC g yX11_fittingAnswer uX11_fittingAnswer [.ref 11, a1] h (fun v h' => ME g u (pc + 3) lv (v.toList ++ st) h' Q)) : ME g u pc lv (a1 :: .ref 11 :: st) h Q := m_callV (As := [a1]) (n := 1) (ci := 11) (k := 11) (q := (RX11, TX11, 40)) hd (by rw [hu]; exact lk_X11_311) tw_881 tw_882 rfl rfl (by decide) (by decide) rfl hK hst hM
set_option maxRecDepth 100000 in
theorem lk_X11_314 : mLk RX11 314 yX11_onesOf uX11_onesOf 2 := ⟨tw_883, tw_884, tw_689, by decide +kernel, Nat.le_of_ble_eq_true rfl⟩
set_option maxRecDepth 100000 in
theorem cl_X11_314 {g : gT} {u : uT} {pc : Nat} {lv st : List Value} {h : mh_T} {Q : Option Value → mh_T → Prop} {a1 a2 : Value} (hu : u.1 = RX11) (hK : 1 < u.2.2.2.2) (hd : decode u.2.1 pc = .ok (.invokevirtual 314, 3)) (hst : (st.map fun v => v.category).sum ≤ 8) (hM : MC g yX11_onesOf uX11_onesOf [.ref 11, a1, a2] h (fun v h' => ME g u (pc + 3) lv (v.toList ++ st) h' Q)) : ME g u pc lv (a2 :: a1 :: .ref 11 :: st) h Q := m_callV (As := [a1, a2]) (n := 2) (ci := 11) (k := 11) (q := (RX11, TX11, 40)) hd (by rw [hu]; exact lk_X11_314) tw_885 tw_886 rfl rfl (by decide) (by decide) rfl hK hst hM
set_option maxRecDepth 100000 in
theorem lk_X11_320 : mLk RX11 320 yX11_less uX11_less 2 := ⟨tw_887, tw_888, tw_689, by decide +kernel, Nat.le_of_ble_eq_true rfl⟩
set_option maxRecDepth 100000 in
theorem cl_X11_320 {g : gT} {u : uT} {pc : Nat} {lv st : List Value} {h : mh_T} {Q : Option Value → mh_T → Prop} {a1 a2 : Value} (hu : u.1 = RX11) (hK : 1 < u.2.2.2.2) (hd : decode u.2.1 pc = .ok (.invokevirtual 320, 3)) (hst : (st.map fun v => v.category).sum ≤ 8) (hM : MC g yX11_less uX11_less [.ref 11, a1, a2] h (fun v h' => ME g u (pc + 3) lv (v.toList ++ st) h' Q)) : ME g u pc lv (a2 :: a1 :: .ref 11 :: st) h Q := m_callV (As := [a1, a2]) (n := 2) (ci := 11) (k := 11) (q := (RX11, TX11, 40)) hd (by rw [hu]; exact lk_X11_320) tw_889 tw_890 rfl rfl (by decide) (by decide) rfl hK hst hM
set_option maxRecDepth 100000 in
theorem lk_X11_317 : mLk RX11 317 yX11_sameOf uX11_sameOf 1 := ⟨tw_891, tw_892, tw_689, by decide +kernel, Nat.le_of_ble_eq_true rfl⟩
set_option maxRecDepth 100000 in
theorem cl_X11_317 {g : gT} {u : uT} {pc : Nat} {lv st : List Value} {h : mh_T} {Q : Option Value → mh_T → Prop} {a1 : Value} (hu : u.1 = RX11) (hK : 1 < u.2.2.2.2) (hd : decode u.2.1 pc = .ok (.invokevirtual 317, 3)) (hst : (st.map fun v => v.category).sum ≤ 8) (hM : MC g yX11_sameOf uX11_sameOf [.ref 11, a1] h (fun v h' => ME g u (pc + 3) lv (v.toList ++ st) h' Q)) : ME g u pc lv (a1 :: .ref 11 :: st) h Q := m_callV (As := [a1]) (n := 1) (ci := 11) (k := 11) (q := (RX11, TX11, 40)) hd (by rw [hu]; exact lk_X11_317) tw_893 tw_894 rfl rfl (by decide) (by decide) rfl hK hst hM
set_option maxRecDepth 100000 in
theorem lk_X11_323 : mLk RX11 323 yX11_bits uX11_bits 1 := ⟨tw_895, tw_896, tw_689, by decide +kernel, Nat.le_of_ble_eq_true rfl⟩
set_option maxRecDepth 100000 in
theorem cl_X11_323 {g : gT} {u : uT} {pc : Nat} {lv st : List Value} {h : mh_T} {Q : Option Value → mh_T → Prop} {a1 : Value} (hu : u.1 = RX11) (hK : 1 < u.2.2.2.2) (hd : decode u.2.1 pc = .ok (.invokestatic 323, 3)) (hst : (st.map fun v => v.category).sum ≤ 8) (hM : MC g yX11_bits uX11_bits [a1] h (fun v h' => ME g u (pc + 3) lv (v.toList ++ st) h' Q)) : ME g u pc lv (a1 :: st) h Q := m_callS (As := [a1]) (n := 1) hd (by rw [hu]; exact lk_X11_323) tw_897 rfl hK hst hM
set_option maxRecDepth 100000 in
theorem lk_X11_326 : mLk RX11 326 yX11_isCycle uX11_isCycle 1 := ⟨tw_898, tw_899, tw_689, by decide +kernel, Nat.le_of_ble_eq_true rfl⟩
set_option maxRecDepth 100000 in
theorem cl_X11_326 {g : gT} {u : uT} {pc : Nat} {lv st : List Value} {h : mh_T} {Q : Option Value → mh_T → Prop} {a1 : Value} (hu : u.1 = RX11) (hK : 2 < u.2.2.2.2) (hd : decode u.2.1 pc = .ok (.invokevirtual 326, 3)) (hst : (st.map fun v => v.category).sum ≤ 8) (hM : MC g yX11_isCycle uX11_isCycle [.ref 11, a1] h (fun v h' => ME g u (pc + 3) lv (v.toList ++ st) h' Q)) : ME g u pc lv (a1 :: .ref 11 :: st) h Q := m_callV (As := [a1]) (n := 1) (ci := 11) (k := 11) (q := (RX11, TX11, 40)) hd (by rw [hu]; exact lk_X11_326) tw_900 tw_901 rfl rfl (by decide) (by decide) rfl hK hst hM
set_option maxRecDepth 100000 in
theorem lk_X11_329 : mLk RX11 329 yX11_cycleOf uX11_cycleOf 1 := ⟨tw_902, tw_903, tw_689, by decide +kernel, Nat.le_of_ble_eq_true rfl⟩
set_option maxRecDepth 100000 in
theorem cl_X11_329 {g : gT} {u : uT} {pc : Nat} {lv st : List Value} {h : mh_T} {Q : Option Value → mh_T → Prop} {a1 : Value} (hu : u.1 = RX11) (hK : 3 < u.2.2.2.2) (hd : decode u.2.1 pc = .ok (.invokevirtual 329, 3)) (hst : (st.map fun v => v.category).sum ≤ 8) (hM : MC g yX11_cycleOf uX11_cycleOf [.ref 11, a1] h (fun v h' => ME g u (pc + 3) lv (v.toList ++ st) h' Q)) : ME g u pc lv (a1 :: .ref 11 :: st) h Q := m_callV (As := [a1]) (n := 1) (ci := 11) (k := 11) (q := (RX11, TX11, 40)) hd (by rw [hu]; exact lk_X11_329) tw_904 tw_905 rfl rfl (by decide) (by decide) rfl hK hst hM
set_option maxRecDepth 100000 in
theorem lk_X11_333 : mLk RX11 333 yX11_excessOf uX11_excessOf 1 := ⟨tw_907, tw_908, tw_689, by decide +kernel, Nat.le_of_ble_eq_true rfl⟩
set_option maxRecDepth 100000 in
theorem cl_X11_333 {g : gT} {u : uT} {pc : Nat} {lv st : List Value} {h : mh_T} {Q : Option Value → mh_T → Prop} {a1 : Value} (hu : u.1 = RX11) (hK : 2 < u.2.2.2.2) (hd : decode u.2.1 pc = .ok (.invokevirtual 333, 3)) (hst : (st.map fun v => v.category).sum ≤ 8) (hM : MC g yX11_excessOf uX11_excessOf [.ref 11, a1] h (fun v h' => ME g u (pc + 3) lv (v.toList ++ st) h' Q)) : ME g u pc lv (a1 :: .ref 11 :: st) h Q := m_callV (As := [a1]) (n := 1) (ci := 11) (k := 11) (q := (RX11, TX11, 40)) hd (by rw [hu]; exact lk_X11_333) tw_909 tw_910 rfl rfl (by decide) (by decide) rfl hK hst hM
set_option maxRecDepth 100000 in
theorem lk_X11_336 : mLk RX11 336 yX11_isNot uX11_isNot 1 := ⟨tw_911, tw_912, tw_689, by decide +kernel, Nat.le_of_ble_eq_true rfl⟩
set_option maxRecDepth 100000 in
theorem cl_X11_336 {g : gT} {u : uT} {pc : Nat} {lv st : List Value} {h : mh_T} {Q : Option Value → mh_T → Prop} {a1 : Value} (hu : u.1 = RX11) (hK : 1 < u.2.2.2.2) (hd : decode u.2.1 pc = .ok (.invokevirtual 336, 3)) (hst : (st.map fun v => v.category).sum ≤ 8) (hM : MC g yX11_isNot uX11_isNot [.ref 11, a1] h (fun v h' => ME g u (pc + 3) lv (v.toList ++ st) h' Q)) : ME g u pc lv (a1 :: .ref 11 :: st) h Q := m_callV (As := [a1]) (n := 1) (ci := 11) (k := 11) (q := (RX11, TX11, 40)) hd (by rw [hu]; exact lk_X11_336) tw_913 tw_914 rfl rfl (by decide) (by decide) rfl hK hst hM
set_option maxRecDepth 100000 in
theorem lk_X11_339 : mLk RX11 339 yX11_paid uX11_paid 1 := ⟨tw_915, tw_916, tw_689, by decide +kernel, Nat.le_of_ble_eq_true rfl⟩
set_option maxRecDepth 100000 in
theorem cl_X11_339 {g : gT} {u : uT} {pc : Nat} {lv st : List Value} {h : mh_T} {Q : Option Value → mh_T → Prop} {a1 : Value} (hu : u.1 = RX11) (hK : 2 < u.2.2.2.2) (hd : decode u.2.1 pc = .ok (.invokevirtual 339, 3)) (hst : (st.map fun v => v.category).sum ≤ 8) (hM : MC g yX11_paid uX11_paid [.ref 11, a1] h (fun v h' => ME g u (pc + 3) lv (v.toList ++ st) h' Q)) : ME g u pc lv (a1 :: .ref 11 :: st) h Q := m_callV (As := [a1]) (n := 1) (ci := 11) (k := 11) (q := (RX11, TX11, 40)) hd (by rw [hu]; exact lk_X11_339) tw_917 tw_918 rfl rfl (by decide) (by decide) rfl hK hst hM
set_option maxRecDepth 100000 in
theorem lk_X11_342 : mLk RX11 342 yX11_winsOf uX11_winsOf 0 := ⟨tw_919, tw_920, tw_689, by decide +kernel, Nat.le_of_ble_eq_true rfl⟩
set_option maxRecDepth 100000 in
theorem cl_X11_342 {g : gT} {u : uT} {pc : Nat} {lv st : List Value} {h : mh_T} {Q : Option Value → mh_T → Prop} (hu : u.1 = RX11) (hK : 2 < u.2.2.2.2) (hd : decode u.2.1 pc = .ok (.invokevirtual 342, 3)) (hst : (st.map fun v => v.category).sum ≤ 8) (hM : MC g yX11_winsOf uX11_winsOf [.ref 11] h (fun v h' => ME g u (pc + 3) lv (v.toList ++ st) h' Q)) : ME g u pc lv (.ref 11 :: st) h Q := m_callV (As := []) (n := 0) (ci := 11) (k := 11) (q := (RX11, TX11, 40)) hd (by rw [hu]; exact lk_X11_342) tw_921 tw_922 rfl rfl (by decide) (by decide) rfl hK hst hM
set_option maxRecDepth 100000 in
theorem lk_X11_345 : mLk RX11 345 yX11_worstHidden uX11_worstHidden 0 := ⟨tw_923, tw_924, tw_689, by decide +kernel, Nat.le_of_ble_eq_true rfl⟩
set_option maxRecDepth 100000 in
theorem cl_X11_345 {g : gT} {u : uT} {pc : Nat} {lv st : List Value} {h : mh_T} {Q : Option Value → mh_T → Prop} (hu : u.1 = RX11) (hK : 3 < u.2.2.2.2) (hd : decode u.2.1 pc = .ok (.invokevirtual 345, 3)) (hst : (st.map fun v => v.category).sum ≤ 8) (hM : MC g yX11_worstHidden uX11_worstHidden [.ref 11] h (fun v h' => ME g u (pc + 3) lv (v.toList ++ st) h' Q)) : ME g u pc lv (.ref 11 :: st) h Q := m_callV (As := []) (n := 0) (ci := 11) (k := 11) (q := (RX11, TX11, 40)) hd (by rw [hu]; exact lk_X11_345) tw_925 tw_926 rfl rfl (by decide) (by decide) rfl hK hst hM
set_option maxRecDepth 100000 in
theorem lk_X11_348 : mLk RX11 348 yX11_linesBy uX11_linesBy 1 := ⟨tw_927, tw_928, tw_689, by decide +kernel, Nat.le_of_ble_eq_true rfl⟩
set_option maxRecDepth 100000 in
theorem cl_X11_348 {g : gT} {u : uT} {pc : Nat} {lv st : List Value} {h : mh_T} {Q : Option Value → mh_T → Prop} {a1 : Value} (hu : u.1 = RX11) (hK : 1 < u.2.2.2.2) (hd : decode u.2.1 pc = .ok (.invokevirtual 348, 3)) (hst : (st.map fun v => v.category).sum ≤ 8) (hM : MC g yX11_linesBy uX11_linesBy [.ref 11, a1] h (fun v h' => ME g u (pc + 3) lv (v.toList ++ st) h' Q)) : ME g u pc lv (a1 :: .ref 11 :: st) h Q := m_callV (As := [a1]) (n := 1) (ci := 11) (k := 11) (q := (RX11, TX11, 40)) hd (by rw [hu]; exact lk_X11_348) tw_929 tw_930 rfl rfl (by decide) (by decide) rfl hK hst hM
set_option maxRecDepth 100000 in
theorem lk_X11_351 : mLk RX11 351 yX11_allLines uX11_allLines 0 := ⟨tw_931, tw_932, tw_689, by decide +kernel, Nat.le_of_ble_eq_true rfl⟩
set_option maxRecDepth 100000 in
theorem cl_X11_351 {g : gT} {u : uT} {pc : Nat} {lv st : List Value} {h : mh_T} {Q : Option Value → mh_T → Prop} (hu : u.1 = RX11) (hK : 1 < u.2.2.2.2) (hd : decode u.2.1 pc = .ok (.invokevirtual 351, 3)) (hst : (st.map fun v => v.category).sum ≤ 8) (hM : MC g yX11_allLines uX11_allLines [.ref 11] h (fun v h' => ME g u (pc + 3) lv (v.toList ++ st) h' Q)) : ME g u pc lv (.ref 11 :: st) h Q := m_callV (As := []) (n := 0) (ci := 11) (k := 11) (q := (RX11, TX11, 40)) hd (by rw [hu]; exact lk_X11_351) tw_933 tw_934 rfl rfl (by decide) (by decide) rfl hK hst hM
set_option maxRecDepth 100000 in
theorem lk_X11_354 : mLk RX11 354 yX11_canLines uX11_canLines 1 := ⟨tw_935, tw_936, tw_689, by decide +kernel, Nat.le_of_ble_eq_true rfl⟩
set_option maxRecDepth 100000 in
theorem cl_X11_354 {g : gT} {u : uT} {pc : Nat} {lv st : List Value} {h : mh_T} {Q : Option Value → mh_T → Prop} {a1 : Value} (hu : u.1 = RX11) (hK : 2 < u.2.2.2.2) (hd : decode u.2.1 pc = .ok (.invokevirtual 354, 3)) (hst : (st.map fun v => v.category).sum ≤ 8) (hM : MC g yX11_canLines uX11_canLines [.ref 11, a1] h (fun v h' => ME g u (pc + 3) lv (v.toList ++ st) h' Q)) : ME g u pc lv (a1 :: .ref 11 :: st) h Q := m_callV (As := [a1]) (n := 1) (ci := 11) (k := 11) (q := (RX11, TX11, 40)) hd (by rw [hu]; exact lk_X11_354) tw_937 tw_938 rfl rfl (by decide) (by decide) rfl hK hst hM
set_option maxRecDepth 100000 in
theorem lk_X11_357 : mLk RX11 357 yX11_isRay uX11_isRay 1 := ⟨tw_939, tw_940, tw_689, by decide +kernel, Nat.le_of_ble_eq_true rfl⟩
set_option maxRecDepth 100000 in
theorem cl_X11_357 {g : gT} {u : uT} {pc : Nat} {lv st : List Value} {h : mh_T} {Q : Option Value → mh_T → Prop} {a1 : Value} (hu : u.1 = RX11) (hK : 2 < u.2.2.2.2) (hd : decode u.2.1 pc = .ok (.invokevirtual 357, 3)) (hst : (st.map fun v => v.category).sum ≤ 8) (hM : MC g yX11_isRay uX11_isRay [.ref 11, a1] h (fun v h' => ME g u (pc + 3) lv (v.toList ++ st) h' Q)) : ME g u pc lv (a1 :: .ref 11 :: st) h Q := m_callV (As := [a1]) (n := 1) (ci := 11) (k := 11) (q := (RX11, TX11, 40)) hd (by rw [hu]; exact lk_X11_357) tw_941 tw_942 rfl rfl (by decide) (by decide) rfl hK hst hM
set_option maxRecDepth 100000 in
theorem lk_X11_360 : mLk RX11 360 yX11_areSquare uX11_areSquare 2 := ⟨tw_943, tw_944, tw_689, by decide +kernel, Nat.le_of_ble_eq_true rfl⟩
set_option maxRecDepth 100000 in
theorem cl_X11_360 {g : gT} {u : uT} {pc : Nat} {lv st : List Value} {h : mh_T} {Q : Option Value → mh_T → Prop} {a1 a2 : Value} (hu : u.1 = RX11) (hK : 1 < u.2.2.2.2) (hd : decode u.2.1 pc = .ok (.invokevirtual 360, 3)) (hst : (st.map fun v => v.category).sum ≤ 8) (hM : MC g yX11_areSquare uX11_areSquare [.ref 11, a1, a2] h (fun v h' => ME g u (pc + 3) lv (v.toList ++ st) h' Q)) : ME g u pc lv (a2 :: a1 :: .ref 11 :: st) h Q := m_callV (As := [a1, a2]) (n := 2) (ci := 11) (k := 11) (q := (RX11, TX11, 40)) hd (by rw [hu]; exact lk_X11_360) tw_945 tw_946 rfl rfl (by decide) (by decide) rfl hK hst hM
set_option maxRecDepth 100000 in
theorem gf_X11_57 {g : gT} {u : uT} {pc : Nat} {lv st : List Value} {h : mh_T} {Q : Option Value → mh_T → Prop} (hu : u.1 = RX11) (hd : decode u.2.1 pc = .ok (.getfield 57, 3)) (kk : ME g u (pc + 3) lv (.ref 57 :: st) h Q) : ME g u pc lv (.ref 11 :: st) h Q := m_getR (k' := 57) (ci := 11) (k := 11) (j := 33) (q := (RX11, TX11, 40)) (ref := "NotAtOnceModel") hd rfl (by decide) (by decide) rfl rfl tinX11 tgX11 (by rw [hu]; exact tw_947) rfl rfl rfl (by decide) kk
set_option maxRecDepth 100000 in
theorem gf_X11_54 {g : gT} {u : uT} {pc : Nat} {lv st : List Value} {h : mh_T} {Q : Option Value → mh_T → Prop} (hu : u.1 = RX11) (hd : decode u.2.1 pc = .ok (.getfield 54, 3)) (kk : ME g u (pc + 3) lv (.ref 56 :: st) h Q) : ME g u pc lv (.ref 11 :: st) h Q := m_getR (k' := 56) (ci := 11) (k := 11) (j := 32) (q := (RX11, TX11, 40)) (ref := "NotAtOnceModel") hd rfl (by decide) (by decide) rfl rfl tinX11 tgX11 (by rw [hu]; exact tw_948) rfl rfl rfl (by decide) kk
set_option maxRecDepth 100000 in
theorem gf_X11_363 {g : gT} {u : uT} {pc : Nat} {lv st : List Value} {h : mh_T} {Q : Option Value → mh_T → Prop} (hu : u.1 = RX11) (hd : decode u.2.1 pc = .ok (.getfield 363, 3)) (kk : ME g u (pc + 3) lv (.int (mI h 11 34) :: st) h Q) : ME g u pc lv (.ref 11 :: st) h Q := m_getI (ci := 11) (k := 11) (j := 34) (q := (RX11, TX11, 40)) (ref := "NotAtOnceModel") hd rfl (by decide) (by decide) rfl rfl tinX11 tgX11 (by rw [hu]; exact tw_949) rfl rfl kk
set_option maxRecDepth 100000 in
theorem pf_X11_363 {g : gT} {u : uT} {pc : Nat} {lv st : List Value} {h : mh_T} {Q : Option Value → mh_T → Prop} {v : Int32} (hu : u.1 = RX11) (hd : decode u.2.1 pc = .ok (.putfield 363, 3)) (kk : ME g u (pc + 3) lv st (wI h 11 34 v) Q) : ME g u pc lv (.int v :: .ref 11 :: st) h Q := m_putI (ty := .int) (ci := 11) (k := 11) (j := 34) (q := (RX11, TX11, 40)) (ref := "NotAtOnceModel") hd rfl (by decide) (by decide) rfl rfl tinX11 tgX11 (by rw [hu]; exact tw_949) rfl tyX11 tyX11_ok nmX11 rfl (by decide +kernel) rfl rfl rfl kk
set_option maxRecDepth 100000 in
theorem lk_X11_366 : mLk RX11 366 yX11_layCorners uX11_layCorners 0 := ⟨tw_950, tw_951, tw_689, by decide +kernel, Nat.le_of_ble_eq_true rfl⟩
set_option maxRecDepth 100000 in
theorem cl_X11_366 {g : gT} {u : uT} {pc : Nat} {lv st : List Value} {h : mh_T} {Q : Option Value → mh_T → Prop} (hu : u.1 = RX11) (hK : 2 < u.2.2.2.2) (hd : decode u.2.1 pc = .ok (.invokevirtual 366, 3)) (hst : (st.map fun v => v.category).sum ≤ 8) (hM : MC g yX11_layCorners uX11_layCorners [.ref 11] h (fun v h' => ME g u (pc + 3) lv (v.toList ++ st) h' Q)) : ME g u pc lv (.ref 11 :: st) h Q := m_callV (As := []) (n := 0) (ci := 11) (k := 11) (q := (RX11, TX11, 40)) hd (by rw [hu]; exact lk_X11_366) tw_952 tw_953 rfl rfl (by decide) (by decide) rfl hK hst hM
set_option maxRecDepth 100000 in
theorem gf_X11_60 {g : gT} {u : uT} {pc : Nat} {lv st : List Value} {h : mh_T} {Q : Option Value → mh_T → Prop} (hu : u.1 = RX11) (hd : decode u.2.1 pc = .ok (.getfield 60, 3)) (kk : ME g u (pc + 3) lv (.ref 58 :: st) h Q) : ME g u pc lv (.ref 11 :: st) h Q := m_getR (k' := 58) (ci := 11) (k := 11) (j := 35) (q := (RX11, TX11, 40)) (ref := "NotAtOnceModel") hd rfl (by decide) (by decide) rfl rfl tinX11 tgX11 (by rw [hu]; exact tw_954) rfl rfl rfl (by decide) kk
set_option maxRecDepth 100000 in
theorem gf_X11_369 {g : gT} {u : uT} {pc : Nat} {lv st : List Value} {h : mh_T} {Q : Option Value → mh_T → Prop} (hu : u.1 = RX11) (hd : decode u.2.1 pc = .ok (.getfield 369, 3)) (kk : ME g u (pc + 3) lv (.int (mI h 11 36) :: st) h Q) : ME g u pc lv (.ref 11 :: st) h Q := m_getI (ci := 11) (k := 11) (j := 36) (q := (RX11, TX11, 40)) (ref := "NotAtOnceModel") hd rfl (by decide) (by decide) rfl rfl tinX11 tgX11 (by rw [hu]; exact tw_955) rfl rfl kk
set_option maxRecDepth 100000 in
theorem gf_X11_372 {g : gT} {u : uT} {pc : Nat} {lv st : List Value} {h : mh_T} {Q : Option Value → mh_T → Prop} (hu : u.1 = RX11) (hd : decode u.2.1 pc = .ok (.getfield 372, 3)) (kk : ME g u (pc + 3) lv (.int (mI h 11 37) :: st) h Q) : ME g u pc lv (.ref 11 :: st) h Q := m_getI (ci := 11) (k := 11) (j := 37) (q := (RX11, TX11, 40)) (ref := "NotAtOnceModel") hd rfl (by decide) (by decide) rfl rfl tinX11 tgX11 (by rw [hu]; exact tw_956) rfl rfl kk
set_option maxRecDepth 100000 in
theorem pf_X11_369 {g : gT} {u : uT} {pc : Nat} {lv st : List Value} {h : mh_T} {Q : Option Value → mh_T → Prop} {v : Int32} (hu : u.1 = RX11) (hd : decode u.2.1 pc = .ok (.putfield 369, 3)) (kk : ME g u (pc + 3) lv st (wI h 11 36 v) Q) : ME g u pc lv (.int v :: .ref 11 :: st) h Q := m_putI (ty := .int) (ci := 11) (k := 11) (j := 36) (q := (RX11, TX11, 40)) (ref := "NotAtOnceModel") hd rfl (by decide) (by decide) rfl rfl tinX11 tgX11 (by rw [hu]; exact tw_955) rfl tyX11 tyX11_ok nmX11 rfl (by decide +kernel) rfl rfl rfl kk
set_option maxRecDepth 100000 in
theorem pf_X11_372 {g : gT} {u : uT} {pc : Nat} {lv st : List Value} {h : mh_T} {Q : Option Value → mh_T → Prop} {v : Int32} (hu : u.1 = RX11) (hd : decode u.2.1 pc = .ok (.putfield 372, 3)) (kk : ME g u (pc + 3) lv st (wI h 11 37 v) Q) : ME g u pc lv (.int v :: .ref 11 :: st) h Q := m_putI (ty := .int) (ci := 11) (k := 11) (j := 37) (q := (RX11, TX11, 40)) (ref := "NotAtOnceModel") hd rfl (by decide) (by decide) rfl rfl tinX11 tgX11 (by rw [hu]; exact tw_956) rfl tyX11 tyX11_ok nmX11 rfl (by decide +kernel) rfl rfl rfl kk
set_option maxRecDepth 100000 in
theorem lk_X11_375 : mLk RX11 375 yX11_isSoFar uX11_isSoFar 3 := ⟨tw_957, tw_958, tw_689, by decide +kernel, Nat.le_of_ble_eq_true rfl⟩
set_option maxRecDepth 100000 in
theorem cl_X11_375 {g : gT} {u : uT} {pc : Nat} {lv st : List Value} {h : mh_T} {Q : Option Value → mh_T → Prop} {a1 a2 a3 : Value} (hu : u.1 = RX11) (hK : 2 < u.2.2.2.2) (hd : decode u.2.1 pc = .ok (.invokevirtual 375, 3)) (hst : (st.map fun v => v.category).sum ≤ 8) (hM : MC g yX11_isSoFar uX11_isSoFar [.ref 11, a1, a2, a3] h (fun v h' => ME g u (pc + 3) lv (v.toList ++ st) h' Q)) : ME g u pc lv (a3 :: a2 :: a1 :: .ref 11 :: st) h Q := m_callV (As := [a1, a2, a3]) (n := 3) (ci := 11) (k := 11) (q := (RX11, TX11, 40)) hd (by rw [hu]; exact lk_X11_375) tw_959 tw_960 rfl rfl (by decide) (by decide) rfl hK hst hM
set_option maxRecDepth 100000 in
theorem lk_X11_378 : mLk RX11 378 yX11_colour uX11_colour 2 := ⟨tw_961, tw_962, tw_689, by decide +kernel, Nat.le_of_ble_eq_true rfl⟩
set_option maxRecDepth 100000 in
theorem cl_X11_378 {g : gT} {u : uT} {pc : Nat} {lv st : List Value} {h : mh_T} {Q : Option Value → mh_T → Prop} {a1 a2 : Value} (hu : u.1 = RX11) (hK : 3 < u.2.2.2.2) (hd : decode u.2.1 pc = .ok (.invokevirtual 378, 3)) (hst : (st.map fun v => v.category).sum ≤ 8) (hM : MC g yX11_colour uX11_colour [.ref 11, a1, a2] h (fun v h' => ME g u (pc + 3) lv (v.toList ++ st) h' Q)) : ME g u pc lv (a2 :: a1 :: .ref 11 :: st) h Q := m_callV (As := [a1, a2]) (n := 2) (ci := 11) (k := 11) (q := (RX11, TX11, 40)) hd (by rw [hu]; exact lk_X11_378) tw_963 tw_964 rfl rfl (by decide) (by decide) rfl hK hst hM
set_option maxRecDepth 100000 in
theorem lk_X11_381 : mLk RX11 381 yX11_allRays uX11_allRays 0 := ⟨tw_965, tw_966, tw_689, by decide +kernel, Nat.le_of_ble_eq_true rfl⟩
set_option maxRecDepth 100000 in
theorem cl_X11_381 {g : gT} {u : uT} {pc : Nat} {lv st : List Value} {h : mh_T} {Q : Option Value → mh_T → Prop} (hu : u.1 = RX11) (hK : 1 < u.2.2.2.2) (hd : decode u.2.1 pc = .ok (.invokevirtual 381, 3)) (hst : (st.map fun v => v.category).sum ≤ 8) (hM : MC g yX11_allRays uX11_allRays [.ref 11] h (fun v h' => ME g u (pc + 3) lv (v.toList ++ st) h' Q)) : ME g u pc lv (.ref 11 :: st) h Q := m_callV (As := []) (n := 0) (ci := 11) (k := 11) (q := (RX11, TX11, 40)) hd (by rw [hu]; exact lk_X11_381) tw_967 tw_968 rfl rfl (by decide) (by decide) rfl hK hst hM
set_option maxRecDepth 100000 in
theorem lk_X11_385 : mLk RX11 385 yX11_hasColour uX11_hasColour 1 := ⟨tw_970, tw_971, tw_689, by decide +kernel, Nat.le_of_ble_eq_true rfl⟩
set_option maxRecDepth 100000 in
theorem cl_X11_385 {g : gT} {u : uT} {pc : Nat} {lv st : List Value} {h : mh_T} {Q : Option Value → mh_T → Prop} {a1 : Value} (hu : u.1 = RX11) (hK : 4 < u.2.2.2.2) (hd : decode u.2.1 pc = .ok (.invokevirtual 385, 3)) (hst : (st.map fun v => v.category).sum ≤ 8) (hM : MC g yX11_hasColour uX11_hasColour [.ref 11, a1] h (fun v h' => ME g u (pc + 3) lv (v.toList ++ st) h' Q)) : ME g u pc lv (a1 :: .ref 11 :: st) h Q := m_callV (As := [a1]) (n := 1) (ci := 11) (k := 11) (q := (RX11, TX11, 40)) hd (by rw [hu]; exact lk_X11_385) tw_972 tw_973 rfl rfl (by decide) (by decide) rfl hK hst hM
set_option maxRecDepth 100000 in
theorem gf_X11_63 {g : gT} {u : uT} {pc : Nat} {lv st : List Value} {h : mh_T} {Q : Option Value → mh_T → Prop} (hu : u.1 = RX11) (hd : decode u.2.1 pc = .ok (.getfield 63, 3)) (kk : ME g u (pc + 3) lv (.ref 59 :: st) h Q) : ME g u pc lv (.ref 11 :: st) h Q := m_getR (k' := 59) (ci := 11) (k := 11) (j := 38) (q := (RX11, TX11, 40)) (ref := "NotAtOnceModel") hd rfl (by decide) (by decide) rfl rfl tinX11 tgX11 (by rw [hu]; exact tw_974) rfl rfl rfl (by decide) kk
set_option maxRecDepth 100000 in
theorem gf_X11_66 {g : gT} {u : uT} {pc : Nat} {lv st : List Value} {h : mh_T} {Q : Option Value → mh_T → Prop} (hu : u.1 = RX11) (hd : decode u.2.1 pc = .ok (.getfield 66, 3)) (kk : ME g u (pc + 3) lv (.ref 60 :: st) h Q) : ME g u pc lv (.ref 11 :: st) h Q := m_getR (k' := 60) (ci := 11) (k := 11) (j := 39) (q := (RX11, TX11, 40)) (ref := "NotAtOnceModel") hd rfl (by decide) (by decide) rfl rfl tinX11 tgX11 (by rw [hu]; exact tw_975) rfl rfl rfl (by decide) kk
set_option maxRecDepth 100000 in
theorem lk_X11_388 {K : Nat} : mLk RX11 388 yX11_tellsAll (uX11_tellsAll K) 4 := ⟨tw_976, tw_977, tw_689, by decide +kernel, Nat.le_of_ble_eq_true rfl⟩
set_option maxRecDepth 100000 in
theorem cl_X11_388 {g : gT} {u : uT} {pc : Nat} {lv st : List Value} {h : mh_T} {Q : Option Value → mh_T → Prop} {K : Nat} {a1 a2 a3 a4 : Value} (hu : u.1 = RX11) (hK : K < u.2.2.2.2) (hd : decode u.2.1 pc = .ok (.invokevirtual 388, 3)) (hst : (st.map fun v => v.category).sum ≤ 8) (hM : MC g yX11_tellsAll (uX11_tellsAll K) [.ref 11, a1, a2, a3, a4] h (fun v h' => ME g u (pc + 3) lv (v.toList ++ st) h' Q)) : ME g u pc lv (a4 :: a3 :: a2 :: a1 :: .ref 11 :: st) h Q := m_callV (As := [a1, a2, a3, a4]) (n := 4) (ci := 11) (k := 11) (q := (RX11, TX11, 40)) hd (by rw [hu]; exact lk_X11_388) tw_978 tw_979 rfl rfl (by decide) (by decide) rfl hK hst hM
set_option maxRecDepth 100000 in
theorem lk_X11_392 : mLk RX11 392 yX11_fewestStates uX11_fewestStates 0 := ⟨tw_980, tw_981, tw_689, by decide +kernel, Nat.le_of_ble_eq_true rfl⟩
set_option maxRecDepth 100000 in
theorem cl_X11_392 {g : gT} {u : uT} {pc : Nat} {lv st : List Value} {h : mh_T} {Q : Option Value → mh_T → Prop} (hu : u.1 = RX11) (hK : 61 < u.2.2.2.2) (hd : decode u.2.1 pc = .ok (.invokevirtual 392, 3)) (hst : (st.map fun v => v.category).sum ≤ 8) (hM : MC g yX11_fewestStates uX11_fewestStates [.ref 11] h (fun v h' => ME g u (pc + 3) lv (v.toList ++ st) h' Q)) : ME g u pc lv (.ref 11 :: st) h Q := m_callV (As := []) (n := 0) (ci := 11) (k := 11) (q := (RX11, TX11, 40)) hd (by rw [hu]; exact lk_X11_392) tw_982 tw_983 rfl rfl (by decide) (by decide) rfl hK hst hM
set_option maxRecDepth 100000 in
theorem gf_X11_32 {g : gT} {u : uT} {pc : Nat} {lv st : List Value} {h : mh_T} {Q : Option Value → mh_T → Prop} (hu : u.1 = RX11) (hd : decode u.2.1 pc = .ok (.getfield 32, 3)) (kk : ME g u (pc + 3) lv (.ref 49 :: st) h Q) : ME g u pc lv (.ref 11 :: st) h Q := m_getR (k' := 49) (ci := 11) (k := 11) (j := 19) (q := (RX11, TX11, 40)) (ref := "NotAtOnceModel") hd rfl (by decide) (by decide) rfl rfl tinX11 tgX11 (by rw [hu]; exact tw_984) rfl rfl rfl (by decide) kk
set_option maxRecDepth 100000 in
theorem gf_X11_41 {g : gT} {u : uT} {pc : Nat} {lv st : List Value} {h : mh_T} {Q : Option Value → mh_T → Prop} (hu : u.1 = RX11) (hd : decode u.2.1 pc = .ok (.getfield 41, 3)) (kk : ME g u (pc + 3) lv (.ref 52 :: st) h Q) : ME g u pc lv (.ref 11 :: st) h Q := m_getR (k' := 52) (ci := 11) (k := 11) (j := 22) (q := (RX11, TX11, 40)) (ref := "NotAtOnceModel") hd rfl (by decide) (by decide) rfl rfl tinX11 tgX11 (by rw [hu]; exact tw_985) rfl rfl rfl (by decide) kk
set_option maxRecDepth 100000 in
theorem gf_X11_189 {g : gT} {u : uT} {pc : Nat} {lv st : List Value} {h : mh_T} {Q : Option Value → mh_T → Prop} (hu : u.1 = RX11) (hd : decode u.2.1 pc = .ok (.getfield 189, 3)) (kk : ME g u (pc + 3) lv (.int (mI h 11 24) :: st) h Q) : ME g u pc lv (.ref 11 :: st) h Q := m_getI (ci := 11) (k := 11) (j := 24) (q := (RX11, TX11, 40)) (ref := "NotAtOnceModel") hd rfl (by decide) (by decide) rfl rfl tinX11 tgX11 (by rw [hu]; exact tw_762) rfl rfl kk
set_option maxRecDepth 100000 in
theorem gf_X11_29 {g : gT} {u : uT} {pc : Nat} {lv st : List Value} {h : mh_T} {Q : Option Value → mh_T → Prop} (hu : u.1 = RX11) (hd : decode u.2.1 pc = .ok (.getfield 29, 3)) (kk : ME g u (pc + 3) lv (.ref 48 :: st) h Q) : ME g u pc lv (.ref 11 :: st) h Q := m_getR (k' := 48) (ci := 11) (k := 11) (j := 18) (q := (RX11, TX11, 40)) (ref := "NotAtOnceModel") hd rfl (by decide) (by decide) rfl rfl tinX11 tgX11 (by rw [hu]; exact tw_986) rfl rfl rfl (by decide) kk
set_option maxRecDepth 100000 in
theorem lk_X11_395 : mLk RX11 395 yX11_keep uX11_keep 9 := ⟨tw_987, tw_988, tw_689, by decide +kernel, Nat.le_of_ble_eq_true rfl⟩
set_option maxRecDepth 100000 in
theorem cl_X11_395 {g : gT} {u : uT} {pc : Nat} {lv st : List Value} {h : mh_T} {Q : Option Value → mh_T → Prop} {a1 a2 a3 a4 a5 a6 a7 a8 a9 : Value} (hu : u.1 = RX11) (hK : 2 < u.2.2.2.2) (hd : decode u.2.1 pc = .ok (.invokestatic 395, 3)) (hst : (st.map fun v => v.category).sum ≤ 8) (hM : MC g yX11_keep uX11_keep [a1, a2, a3, a4, a5, a6, a7, a8, a9] h (fun v h' => ME g u (pc + 3) lv (v.toList ++ st) h' Q)) : ME g u pc lv (a9 :: a8 :: a7 :: a6 :: a5 :: a4 :: a3 :: a2 :: a1 :: st) h Q := m_callS (As := [a1, a2, a3, a4, a5, a6, a7, a8, a9]) (n := 9) hd (by rw [hu]; exact lk_X11_395) tw_989 rfl hK hst hM
set_option maxRecDepth 100000 in
theorem lk_X11_399 : mLk RX11 399 yX11_copy uX11_copy 5 := ⟨tw_990, tw_991, tw_689, by decide +kernel, Nat.le_of_ble_eq_true rfl⟩
set_option maxRecDepth 100000 in
theorem cl_X11_399 {g : gT} {u : uT} {pc : Nat} {lv st : List Value} {h : mh_T} {Q : Option Value → mh_T → Prop} {a1 a2 a3 a4 a5 : Value} (hu : u.1 = RX11) (hK : 1 < u.2.2.2.2) (hd : decode u.2.1 pc = .ok (.invokestatic 399, 3)) (hst : (st.map fun v => v.category).sum ≤ 8) (hM : MC g yX11_copy uX11_copy [a1, a2, a3, a4, a5] h (fun v h' => ME g u (pc + 3) lv (v.toList ++ st) h' Q)) : ME g u pc lv (a5 :: a4 :: a3 :: a2 :: a1 :: st) h Q := m_callS (As := [a1, a2, a3, a4, a5]) (n := 5) hd (by rw [hu]; exact lk_X11_399) tw_992 rfl hK hst hM
set_option maxRecDepth 100000 in
theorem lk_X11_403 : mLk RX11 403 yX11_did uX11_did 5 := ⟨tw_993, tw_994, tw_689, by decide +kernel, Nat.le_of_ble_eq_true rfl⟩
set_option maxRecDepth 100000 in
theorem cl_X11_403 {g : gT} {u : uT} {pc : Nat} {lv st : List Value} {h : mh_T} {Q : Option Value → mh_T → Prop} {a1 a2 a3 a4 a5 : Value} (hu : u.1 = RX11) (hK : 3 < u.2.2.2.2) (hd : decode u.2.1 pc = .ok (.invokevirtual 403, 3)) (hst : (st.map fun v => v.category).sum ≤ 8) (hM : MC g yX11_did uX11_did [.ref 11, a1, a2, a3, a4, a5] h (fun v h' => ME g u (pc + 3) lv (v.toList ++ st) h' Q)) : ME g u pc lv (a5 :: a4 :: a3 :: a2 :: a1 :: .ref 11 :: st) h Q := m_callV (As := [a1, a2, a3, a4, a5]) (n := 5) (ci := 11) (k := 11) (q := (RX11, TX11, 40)) hd (by rw [hu]; exact lk_X11_403) tw_995 tw_996 rfl rfl (by decide) (by decide) rfl hK hst hM
set_option maxRecDepth 100000 in
theorem lk_X11_407 : mLk RX11 407 yX11_goesAway uX11_goesAway 1 := ⟨tw_997, tw_998, tw_689, by decide +kernel, Nat.le_of_ble_eq_true rfl⟩
set_option maxRecDepth 100000 in
theorem cl_X11_407 {g : gT} {u : uT} {pc : Nat} {lv st : List Value} {h : mh_T} {Q : Option Value → mh_T → Prop} {a1 : Value} (hu : u.1 = RX11) (hK : 1 < u.2.2.2.2) (hd : decode u.2.1 pc = .ok (.invokevirtual 407, 3)) (hst : (st.map fun v => v.category).sum ≤ 8) (hM : MC g yX11_goesAway uX11_goesAway [.ref 11, a1] h (fun v h' => ME g u (pc + 3) lv (v.toList ++ st) h' Q)) : ME g u pc lv (a1 :: .ref 11 :: st) h Q := m_callV (As := [a1]) (n := 1) (ci := 11) (k := 11) (q := (RX11, TX11, 40)) hd (by rw [hu]; exact lk_X11_407) tw_999 tw_1000 rfl rfl (by decide) (by decide) rfl hK hst hM
set_option maxRecDepth 100000 in
theorem gf_X11_35 {g : gT} {u : uT} {pc : Nat} {lv st : List Value} {h : mh_T} {Q : Option Value → mh_T → Prop} (hu : u.1 = RX11) (hd : decode u.2.1 pc = .ok (.getfield 35, 3)) (kk : ME g u (pc + 3) lv (.ref 50 :: st) h Q) : ME g u pc lv (.ref 11 :: st) h Q := m_getR (k' := 50) (ci := 11) (k := 11) (j := 20) (q := (RX11, TX11, 40)) (ref := "NotAtOnceModel") hd rfl (by decide) (by decide) rfl rfl tinX11 tgX11 (by rw [hu]; exact tw_1001) rfl rfl rfl (by decide) kk
set_option maxRecDepth 100000 in
theorem gf_X11_44 {g : gT} {u : uT} {pc : Nat} {lv st : List Value} {h : mh_T} {Q : Option Value → mh_T → Prop} (hu : u.1 = RX11) (hd : decode u.2.1 pc = .ok (.getfield 44, 3)) (kk : ME g u (pc + 3) lv (.ref 53 :: st) h Q) : ME g u pc lv (.ref 11 :: st) h Q := m_getR (k' := 53) (ci := 11) (k := 11) (j := 23) (q := (RX11, TX11, 40)) (ref := "NotAtOnceModel") hd rfl (by decide) (by decide) rfl rfl tinX11 tgX11 (by rw [hu]; exact tw_1002) rfl rfl rfl (by decide) kk
set_option maxRecDepth 100000 in
theorem gf_X11_192 {g : gT} {u : uT} {pc : Nat} {lv st : List Value} {h : mh_T} {Q : Option Value → mh_T → Prop} (hu : u.1 = RX11) (hd : decode u.2.1 pc = .ok (.getfield 192, 3)) (kk : ME g u (pc + 3) lv (.int (mI h 11 25) :: st) h Q) : ME g u pc lv (.ref 11 :: st) h Q := m_getI (ci := 11) (k := 11) (j := 25) (q := (RX11, TX11, 40)) (ref := "NotAtOnceModel") hd rfl (by decide) (by decide) rfl rfl tinX11 tgX11 (by rw [hu]; exact tw_763) rfl rfl kk
set_option maxRecDepth 100000 in
theorem gf_X11_195 {g : gT} {u : uT} {pc : Nat} {lv st : List Value} {h : mh_T} {Q : Option Value → mh_T → Prop} (hu : u.1 = RX11) (hd : decode u.2.1 pc = .ok (.getfield 195, 3)) (kk : ME g u (pc + 3) lv (.int (mI h 11 26) :: st) h Q) : ME g u pc lv (.ref 11 :: st) h Q := m_getI (ci := 11) (k := 11) (j := 26) (q := (RX11, TX11, 40)) (ref := "NotAtOnceModel") hd rfl (by decide) (by decide) rfl rfl tinX11 tgX11 (by rw [hu]; exact tw_764) rfl rfl kk
set_option maxRecDepth 100000 in
theorem gf_X11_38 {g : gT} {u : uT} {pc : Nat} {lv st : List Value} {h : mh_T} {Q : Option Value → mh_T → Prop} (hu : u.1 = RX11) (hd : decode u.2.1 pc = .ok (.getfield 38, 3)) (kk : ME g u (pc + 3) lv (.ref 51 :: st) h Q) : ME g u pc lv (.ref 11 :: st) h Q := m_getR (k' := 51) (ci := 11) (k := 11) (j := 21) (q := (RX11, TX11, 40)) (ref := "NotAtOnceModel") hd rfl (by decide) (by decide) rfl rfl tinX11 tgX11 (by rw [hu]; exact tw_1003) rfl rfl rfl (by decide) kk
