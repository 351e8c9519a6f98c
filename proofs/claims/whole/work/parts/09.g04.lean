set_option maxRecDepth 20000 in
theorem ggX10_level_X10_refused : GoodIn wsX10_level wsX10_refused := goodIn_r _ [12, 13, 102, 103, 104, 105, 106, 107, 108, 109, 110, 111, 112, 113, 114, 115] (by decide +kernel) (by decide +kernel)
set_option maxRecDepth 20000 in
theorem gX10_level_X10_refused : GoodIn wsX10_level (wsV RX10 90 RX10 yX10_refused wsX10_refused) := goodIn_app (goodIn_of _ (by decide +kernel)) ggX10_level_X10_refused
set_option maxRecDepth 20000 in
theorem ggX10_hidden_X10_noBook : GoodIn wsX10_hidden wsX10_noBook := goodIn_r _ [6, 1, 7, 39, 40, 41, 42, 43, 44, 45, 46, 47, 48, 49, 50, 51, 52, 53, 54, 55, 56, 57, 58, 59, 60] (by decide +kernel) (by decide +kernel)
set_option maxRecDepth 20000 in
theorem gX10_hidden_X10_noBook : GoodIn wsX10_hidden (wsV RX10 131 RX10 yX10_noBook wsX10_noBook) := goodIn_app (goodIn_of _ (by decide +kernel)) ggX10_hidden_X10_noBook
set_option maxRecDepth 20000 in
theorem ggX10_hidden_X10_refused : GoodIn wsX10_hidden wsX10_refused := goodIn_r _ [11, 12, 39, 40, 41, 42, 43, 44, 45, 46, 47, 48, 49, 50, 51, 52] (by decide +kernel) (by decide +kernel)
set_option maxRecDepth 20000 in
theorem gX10_hidden_X10_refused : GoodIn wsX10_hidden (wsV RX10 90 RX10 yX10_refused wsX10_refused) := goodIn_app (goodIn_of _ (by decide +kernel)) ggX10_hidden_X10_refused
set_option maxRecDepth 20000 in
theorem ggX10_answer_X10_noBook : GoodIn wsX10_answer wsX10_noBook := goodIn_r _ [6, 1, 7, 39, 40, 41, 42, 43, 44, 45, 46, 47, 48, 49, 50, 51, 52, 53, 54, 55, 56, 57, 58, 59, 60] (by decide +kernel) (by decide +kernel)
set_option maxRecDepth 20000 in
theorem gX10_answer_X10_noBook : GoodIn wsX10_answer (wsV RX10 131 RX10 yX10_noBook wsX10_noBook) := goodIn_app (goodIn_of _ (by decide +kernel)) ggX10_answer_X10_noBook
set_option maxRecDepth 20000 in
theorem ggX10_answer_X10_refused : GoodIn wsX10_answer wsX10_refused := goodIn_r _ [33, 34, 39, 40, 41, 42, 43, 44, 45, 46, 47, 48, 49, 50, 51, 52] (by decide +kernel) (by decide +kernel)
set_option maxRecDepth 20000 in
theorem gX10_answer_X10_refused : GoodIn wsX10_answer (wsV RX10 90 RX10 yX10_refused wsX10_refused) := goodIn_app (goodIn_of _ (by decide +kernel)) ggX10_answer_X10_refused
set_option maxRecDepth 20000 in
theorem ggX10_disturbed_X10_noBook : GoodIn wsX10_disturbed wsX10_noBook := goodIn_r _ [6, 1, 7, 31, 32, 33, 34, 35, 36, 37, 38, 39, 40, 41, 42, 43, 44, 45, 46, 47, 48, 49, 50, 51, 52] (by decide +kernel) (by decide +kernel)
set_option maxRecDepth 20000 in
theorem gX10_disturbed_X10_noBook : GoodIn wsX10_disturbed (wsV RX10 131 RX10 yX10_noBook wsX10_noBook) := goodIn_app (goodIn_of _ (by decide +kernel)) ggX10_disturbed_X10_noBook
set_option maxRecDepth 20000 in
theorem ggX10_disturbed_X10_refused : GoodIn wsX10_disturbed wsX10_refused := goodIn_r _ [11, 12, 31, 32, 33, 34, 35, 36, 37, 38, 39, 40, 41, 42, 43, 44] (by decide +kernel) (by decide +kernel)
set_option maxRecDepth 20000 in
theorem gX10_disturbed_X10_refused : GoodIn wsX10_disturbed (wsV RX10 90 RX10 yX10_refused wsX10_refused) := goodIn_app (goodIn_of _ (by decide +kernel)) ggX10_disturbed_X10_refused
set_option maxRecDepth 20000 in
theorem ggX10_same_X8_hasPair : GoodIn wsX10_same wsX8_hasPair := goodIn_r _ [7, 8, 9, 10, 11, 6, 12, 13, 38, 39, 40, 41, 42, 43, 44, 45] (by decide +kernel) (by decide +kernel)
set_option maxRecDepth 20000 in
theorem gX10_same_X8_hasPair : GoodIn wsX10_same (wsV RX10 176 RX8 yX8_hasPair wsX8_hasPair) := goodIn_app (goodIn_of _ (by decide +kernel)) ggX10_same_X8_hasPair
set_option maxRecDepth 20000 in
theorem ggX10_cycles_X10_noBook : GoodIn wsX10_cycles wsX10_noBook := goodIn_r _ [6, 7, 8, 57, 58, 59, 60, 61, 62, 63, 64, 65, 66, 67, 68, 69, 70, 71, 72, 73, 74, 75, 76, 77, 78] (by decide +kernel) (by decide +kernel)
set_option maxRecDepth 20000 in
theorem gX10_cycles_X10_noBook : GoodIn wsX10_cycles (wsV RX10 131 RX10 yX10_noBook wsX10_noBook) := goodIn_app (goodIn_of _ (by decide +kernel)) ggX10_cycles_X10_noBook
set_option maxRecDepth 20000 in
theorem ggX10_cycles_X10_refused : GoodIn wsX10_cycles wsX10_refused := goodIn_r _ [12, 13, 57, 58, 59, 60, 61, 62, 63, 64, 65, 66, 67, 68, 69, 70] (by decide +kernel) (by decide +kernel)
set_option maxRecDepth 20000 in
theorem gX10_cycles_X10_refused : GoodIn wsX10_cycles (wsV RX10 90 RX10 yX10_refused wsX10_refused) := goodIn_app (goodIn_of _ (by decide +kernel)) ggX10_cycles_X10_refused
set_option maxRecDepth 20000 in
theorem ggX10_cycle_X10_noBook : GoodIn wsX10_cycle wsX10_noBook := goodIn_r _ [6, 7, 8, 57, 58, 59, 60, 61, 62, 63, 64, 65, 66, 67, 68, 69, 70, 71, 72, 73, 74, 75, 76, 77, 78] (by decide +kernel) (by decide +kernel)
set_option maxRecDepth 20000 in
theorem gX10_cycle_X10_noBook : GoodIn wsX10_cycle (wsV RX10 131 RX10 yX10_noBook wsX10_noBook) := goodIn_app (goodIn_of _ (by decide +kernel)) ggX10_cycle_X10_noBook
set_option maxRecDepth 20000 in
theorem ggX10_cycle_X10_refused : GoodIn wsX10_cycle wsX10_refused := goodIn_r _ [51, 52, 57, 58, 59, 60, 61, 62, 63, 64, 65, 66, 67, 68, 69, 70] (by decide +kernel) (by decide +kernel)
set_option maxRecDepth 20000 in
theorem gX10_cycle_X10_refused : GoodIn wsX10_cycle (wsV RX10 90 RX10 yX10_refused wsX10_refused) := goodIn_app (goodIn_of _ (by decide +kernel)) ggX10_cycle_X10_refused
set_option maxRecDepth 20000 in
theorem ggX10_excess_X10_noBook : GoodIn wsX10_excess wsX10_noBook := goodIn_r _ [7, 8, 9, 66, 67, 68, 69, 70, 71, 72, 73, 74, 75, 76, 77, 78, 79, 80, 81, 82, 83, 84, 85, 86, 87] (by decide +kernel) (by decide +kernel)
set_option maxRecDepth 20000 in
theorem gX10_excess_X10_noBook : GoodIn wsX10_excess (wsV RX10 131 RX10 yX10_noBook wsX10_noBook) := goodIn_app (goodIn_of _ (by decide +kernel)) ggX10_excess_X10_noBook
set_option maxRecDepth 20000 in
theorem ggX10_widest_X10_noBook : GoodIn wsX10_widest wsX10_noBook := goodIn_r _ [6, 7, 8, 74, 75, 76, 77, 78, 79, 80, 81, 82, 83, 84, 85, 86, 87, 88, 89, 90, 91, 92, 93, 94, 95] (by decide +kernel) (by decide +kernel)
set_option maxRecDepth 20000 in
theorem gX10_widest_X10_noBook : GoodIn wsX10_widest (wsV RX10 131 RX10 yX10_noBook wsX10_noBook) := goodIn_app (goodIn_of _ (by decide +kernel)) ggX10_widest_X10_noBook
set_option maxRecDepth 20000 in
theorem ggX10_widest_X10_refused : GoodIn wsX10_widest wsX10_refused := goodIn_r _ [12, 13, 74, 75, 76, 77, 78, 79, 80, 81, 82, 83, 84, 85, 86, 87] (by decide +kernel) (by decide +kernel)
set_option maxRecDepth 20000 in
theorem gX10_widest_X10_refused : GoodIn wsX10_widest (wsV RX10 90 RX10 yX10_refused wsX10_refused) := goodIn_app (goodIn_of _ (by decide +kernel)) ggX10_widest_X10_refused
set_option maxRecDepth 20000 in
theorem ggX10_stake_X8_hasOutcome : GoodIn wsX10_stake wsX8_hasOutcome := goodIn_r _ [7, 8, 9, 10, 6, 11, 12, 13, 14, 15, 16, 17, 42, 43, 44, 45, 46, 47, 48, 49] (by decide +kernel) (by decide +kernel)
set_option maxRecDepth 20000 in
theorem gX10_stake_X8_hasOutcome : GoodIn wsX10_stake (wsV RX10 156 RX8 yX8_hasOutcome wsX8_hasOutcome) := goodIn_app (goodIn_of _ (by decide +kernel)) ggX10_stake_X8_hasOutcome
set_option maxRecDepth 20000 in
theorem ggX10_stake_X10_denied : GoodIn wsX10_stake wsX10_denied := goodIn_r _ [22, 23, 28, 29, 30, 31, 32, 33, 34, 35, 36, 37, 38, 39, 40, 41] (by decide +kernel) (by decide +kernel)
set_option maxRecDepth 20000 in
theorem gX10_stake_X10_denied : GoodIn wsX10_stake (wsV RX10 197 RX10 yX10_denied wsX10_denied) := goodIn_app (goodIn_of _ (by decide +kernel)) ggX10_stake_X10_denied
set_option maxRecDepth 20000 in
theorem ggX10_wins_X10_noBook : GoodIn wsX10_wins wsX10_noBook := goodIn_r _ [6, 1, 7, 25, 26, 27, 28, 29, 30, 31, 32, 33, 34, 35, 36, 37, 38, 39, 40, 41, 42, 43, 44, 45, 46] (by decide +kernel) (by decide +kernel)
set_option maxRecDepth 20000 in
theorem gX10_wins_X10_noBook : GoodIn wsX10_wins (wsV RX10 131 RX10 yX10_noBook wsX10_noBook) := goodIn_app (goodIn_of _ (by decide +kernel)) ggX10_wins_X10_noBook
set_option maxRecDepth 20000 in
theorem ggX10_wins_X10_refused : GoodIn wsX10_wins wsX10_refused := goodIn_r _ [11, 12, 25, 26, 27, 28, 29, 30, 31, 32, 33, 34, 35, 36, 37, 38] (by decide +kernel) (by decide +kernel)
set_option maxRecDepth 20000 in
theorem gX10_wins_X10_refused : GoodIn wsX10_wins (wsV RX10 90 RX10 yX10_refused wsX10_refused) := goodIn_app (goodIn_of _ (by decide +kernel)) ggX10_wins_X10_refused
set_option maxRecDepth 20000 in
theorem ggX10_worst_X10_noBook : GoodIn wsX10_worst wsX10_noBook := goodIn_r _ [6, 1, 7, 40, 41, 42, 43, 44, 45, 46, 47, 48, 49, 50, 51, 52, 53, 54, 55, 56, 57, 58, 59, 60, 61] (by decide +kernel) (by decide +kernel)
set_option maxRecDepth 20000 in
theorem gX10_worst_X10_noBook : GoodIn wsX10_worst (wsV RX10 131 RX10 yX10_noBook wsX10_noBook) := goodIn_app (goodIn_of _ (by decide +kernel)) ggX10_worst_X10_noBook
set_option maxRecDepth 20000 in
theorem ggX10_worst_X10_refused : GoodIn wsX10_worst wsX10_refused := goodIn_r _ [11, 12, 40, 41, 42, 43, 44, 45, 46, 47, 48, 49, 50, 51, 52, 53] (by decide +kernel) (by decide +kernel)
set_option maxRecDepth 20000 in
theorem gX10_worst_X10_refused : GoodIn wsX10_worst (wsV RX10 90 RX10 yX10_refused wsX10_refused) := goodIn_app (goodIn_of _ (by decide +kernel)) ggX10_worst_X10_refused
set_option maxRecDepth 20000 in
theorem ggX10_worstAt_X10_noBook : GoodIn wsX10_worstAt wsX10_noBook := goodIn_r _ [6, 1, 7, 39, 40, 41, 42, 43, 44, 45, 46, 47, 48, 49, 50, 51, 52, 53, 54, 55, 56, 57, 58, 59, 60] (by decide +kernel) (by decide +kernel)
set_option maxRecDepth 20000 in
theorem gX10_worstAt_X10_noBook : GoodIn wsX10_worstAt (wsV RX10 131 RX10 yX10_noBook wsX10_noBook) := goodIn_app (goodIn_of _ (by decide +kernel)) ggX10_worstAt_X10_noBook
set_option maxRecDepth 20000 in
theorem ggX10_worstAt_X10_refused : GoodIn wsX10_worstAt wsX10_refused := goodIn_r _ [11, 12, 39, 40, 41, 42, 43, 44, 45, 46, 47, 48, 49, 50, 51, 52] (by decide +kernel) (by decide +kernel)
set_option maxRecDepth 20000 in
theorem gX10_worstAt_X10_refused : GoodIn wsX10_worstAt (wsV RX10 90 RX10 yX10_refused wsX10_refused) := goodIn_app (goodIn_of _ (by decide +kernel)) ggX10_worstAt_X10_refused
set_option maxRecDepth 20000 in
theorem ggX10_bars_X10_noBook : GoodIn wsX10_bars wsX10_noBook := goodIn_r _ [7, 1, 2, 45, 46, 47, 48, 49, 50, 51, 52, 53, 54, 55, 56, 57, 58, 59, 60, 61, 62, 63, 64, 65, 66] (by decide +kernel) (by decide +kernel)
set_option maxRecDepth 20000 in
theorem gX10_bars_X10_noBook : GoodIn wsX10_bars (wsV RX10 131 RX10 yX10_noBook wsX10_noBook) := goodIn_app (goodIn_of _ (by decide +kernel)) ggX10_bars_X10_noBook
set_option maxRecDepth 20000 in
theorem ggX10_bars_X10_refused : GoodIn wsX10_bars wsX10_refused := goodIn_r _ [11, 12, 45, 46, 47, 48, 49, 50, 51, 52, 53, 54, 55, 56, 57, 58] (by decide +kernel) (by decide +kernel)
set_option maxRecDepth 20000 in
theorem gX10_bars_X10_refused : GoodIn wsX10_bars (wsV RX10 90 RX10 yX10_refused wsX10_refused) := goodIn_app (goodIn_of _ (by decide +kernel)) ggX10_bars_X10_refused
set_option maxRecDepth 20000 in
theorem ggX10_fair_X10_noBook : GoodIn wsX10_fair wsX10_noBook := goodIn_r _ [8, 1, 2, 60, 61, 62, 63, 64, 65, 66, 67, 68, 69, 70, 71, 72, 73, 74, 75, 76, 77, 78, 79, 80, 81] (by decide +kernel) (by decide +kernel)
set_option maxRecDepth 20000 in
theorem gX10_fair_X10_noBook : GoodIn wsX10_fair (wsV RX10 131 RX10 yX10_noBook wsX10_noBook) := goodIn_app (goodIn_of _ (by decide +kernel)) ggX10_fair_X10_noBook
set_option maxRecDepth 20000 in
theorem ggX10_fair_X10_refused : GoodIn wsX10_fair wsX10_refused := goodIn_r _ [12, 13, 60, 61, 62, 63, 64, 65, 66, 67, 68, 69, 70, 71, 72, 73] (by decide +kernel) (by decide +kernel)
set_option maxRecDepth 20000 in
theorem gX10_fair_X10_refused : GoodIn wsX10_fair (wsV RX10 90 RX10 yX10_refused wsX10_refused) := goodIn_app (goodIn_of _ (by decide +kernel)) ggX10_fair_X10_refused
set_option maxRecDepth 20000 in
theorem ggX10_ways_X10_noBook : GoodIn wsX10_ways wsX10_noBook := goodIn_r _ [7, 8, 9, 19, 20, 21, 22, 23, 24, 25, 26, 27, 28, 29, 30, 31, 32, 39, 40, 41, 42, 43, 44, 45, 46] (by decide +kernel) (by decide +kernel)
set_option maxRecDepth 20000 in
theorem gX10_ways_X10_noBook : GoodIn wsX10_ways (wsV RX10 131 RX10 yX10_noBook wsX10_noBook) := goodIn_app (goodIn_of _ (by decide +kernel)) ggX10_ways_X10_noBook
set_option maxRecDepth 20000 in
theorem ggX10_ways_X10_refused : GoodIn wsX10_ways wsX10_refused := goodIn_r _ [13, 14, 19, 20, 21, 22, 23, 24, 25, 26, 27, 28, 29, 30, 31, 32] (by decide +kernel) (by decide +kernel)
set_option maxRecDepth 20000 in
theorem gX10_ways_X10_refused : GoodIn wsX10_ways (wsV RX10 90 RX10 yX10_refused wsX10_refused) := goodIn_app (goodIn_of _ (by decide +kernel)) ggX10_ways_X10_refused
set_option maxRecDepth 20000 in
theorem ggX10_forced_X10_refused : GoodIn wsX10_forced wsX10_refused := goodIn_r _ [8, 9, 21, 22, 23, 24, 25, 26, 27, 28, 29, 30, 31, 32, 33, 34] (by decide +kernel) (by decide +kernel)
set_option maxRecDepth 20000 in
theorem gX10_forced_X10_refused : GoodIn wsX10_forced (wsV RX10 90 RX10 yX10_refused wsX10_refused) := goodIn_app (goodIn_of _ (by decide +kernel)) ggX10_forced_X10_refused
