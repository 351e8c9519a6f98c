set_option maxRecDepth 20000 in
theorem ggX11_share_X11_no : GoodIn wsX11_share wsX11_no := goodIn_r _ [17, 13, 60, 61, 62, 63, 64, 65, 66, 67, 68, 69, 70, 71, 72, 73, 74, 75, 76, 77, 78, 79, 80, 81, 82, 83, 84, 85, 86, 87, 88, 89, 90, 91, 92, 93, 94, 95, 96, 97, 98, 99] (by decide +kernel) (by decide +kernel)
set_option maxRecDepth 20000 in
theorem gX11_share_X11_no : GoodIn wsX11_share (wsV RX11 177 RX11 yX11_no wsX11_no) := goodIn_app (goodIn_of _ (by decide +kernel)) ggX11_share_X11_no
set_option maxRecDepth 20000 in
theorem ggX11_together_X11_good : GoodIn wsX11_together wsX11_good := goodIn_r _ [12, 13, 14, 70, 71, 72, 73, 74, 75, 76, 77, 78, 79, 80, 81, 82, 83, 84, 85, 86, 87, 88, 89, 90, 91, 92, 93, 94, 95, 96, 97, 98, 99, 100, 101, 102, 103, 104, 105, 106, 107, 108, 109] (by decide +kernel) (by decide +kernel)
set_option maxRecDepth 20000 in
theorem gX11_together_X11_good : GoodIn wsX11_together (wsV RX11 174 RX11 yX11_good wsX11_good) := goodIn_app (goodIn_of _ (by decide +kernel)) ggX11_together_X11_good
set_option maxRecDepth 20000 in
theorem ggX11_together_X11_isLook : GoodIn wsX11_together wsX11_isLook := goodIn_r _ [18, 19, 1, 20, 21, 11, 22, 70, 71, 72, 73, 74, 75, 76, 77, 78, 79, 80, 81, 82, 83, 84, 85, 86, 87, 88, 89, 90, 91, 92, 93, 94, 95, 96, 97, 98, 99, 100, 101, 102, 103, 104, 105, 106, 107, 108, 109] (by decide +kernel) (by decide +kernel)
set_option maxRecDepth 20000 in
theorem gX11_together_X11_isLook : GoodIn wsX11_together (wsV RX11 296 RX11 yX11_isLook wsX11_isLook) := goodIn_app (goodIn_of _ (by decide +kernel)) ggX11_together_X11_isLook
set_option maxRecDepth 20000 in
theorem ggX11_together_X11_no : GoodIn wsX11_together wsX11_no := goodIn_r _ [29, 14, 70, 71, 72, 73, 74, 75, 76, 77, 78, 79, 80, 81, 82, 83, 84, 85, 86, 87, 88, 89, 90, 91, 92, 93, 94, 95, 96, 97, 98, 99, 100, 101, 102, 103, 104, 105, 106, 107, 108, 109] (by decide +kernel) (by decide +kernel)
set_option maxRecDepth 20000 in
theorem gX11_together_X11_no : GoodIn wsX11_together (wsV RX11 177 RX11 yX11_no wsX11_no) := goodIn_app (goodIn_of _ (by decide +kernel)) ggX11_together_X11_no
set_option maxRecDepth 20000 in
theorem ggX11_extend_X11_good : GoodIn wsX11_extend wsX11_good := goodIn_r _ [5, 6, 7, 44, 45, 46, 47, 48, 49, 50, 51, 52, 53, 54, 55, 56, 57, 58, 59, 60, 61, 62, 63, 64, 65, 66, 67, 68, 69, 70, 71, 72, 73, 74, 75, 76, 77, 78, 79, 80, 81, 82, 83] (by decide +kernel) (by decide +kernel)
set_option maxRecDepth 20000 in
theorem gX11_extend_X11_good : GoodIn wsX11_extend (wsV RX11 174 RX11 yX11_good wsX11_good) := goodIn_app (goodIn_of _ (by decide +kernel)) ggX11_extend_X11_good
set_option maxRecDepth 20000 in
theorem ggX11_extend_X11_isOutcome : GoodIn wsX11_extend wsX11_isOutcome := goodIn_r _ [11, 12, 13, 14, 15, 4, 16, 17, 18, 19, 20, 21, 22, 23, 44, 45, 46, 47, 48, 49, 50, 51, 52, 53, 54, 55, 56, 57, 58, 59, 60, 61, 62, 63, 64, 65, 66, 67, 68, 69, 70, 71, 72, 73, 74, 75, 76, 77, 78, 79, 80, 81, 82, 83] (by decide +kernel) (by decide +kernel)
set_option maxRecDepth 20000 in
theorem gX11_extend_X11_isOutcome : GoodIn wsX11_extend (wsV RX11 305 RX11 yX11_isOutcome wsX11_isOutcome) := goodIn_app (goodIn_of _ (by decide +kernel)) ggX11_extend_X11_isOutcome
set_option maxRecDepth 20000 in
theorem ggX11_extend_X11_no : GoodIn wsX11_extend wsX11_no := goodIn_r _ [43, 7, 44, 45, 46, 47, 48, 49, 50, 51, 52, 53, 54, 55, 56, 57, 58, 59, 60, 61, 62, 63, 64, 65, 66, 67, 68, 69, 70, 71, 72, 73, 74, 75, 76, 77, 78, 79, 80, 81, 82, 83] (by decide +kernel) (by decide +kernel)
set_option maxRecDepth 20000 in
theorem gX11_extend_X11_no : GoodIn wsX11_extend (wsV RX11 177 RX11 yX11_no wsX11_no) := goodIn_app (goodIn_of _ (by decide +kernel)) ggX11_extend_X11_no
set_option maxRecDepth 20000 in
theorem ggX11_level_X11_good : GoodIn wsX11_level wsX11_good := goodIn_r _ [7, 8, 9, 62, 63, 64, 65, 66, 67, 68, 69, 70, 71, 72, 73, 74, 75, 76, 77, 78, 79, 80, 81, 82, 83, 84, 85, 86, 87, 88, 89, 90, 91, 92, 93, 94, 95, 96, 97, 98, 99, 100, 101] (by decide +kernel) (by decide +kernel)
set_option maxRecDepth 20000 in
theorem gX11_level_X11_good : GoodIn wsX11_level (wsV RX11 174 RX11 yX11_good wsX11_good) := goodIn_app (goodIn_of _ (by decide +kernel)) ggX11_level_X11_good
set_option maxRecDepth 20000 in
theorem ggX11_level_X11_no : GoodIn wsX11_level wsX11_no := goodIn_r _ [13, 9, 62, 63, 64, 65, 66, 67, 68, 69, 70, 71, 72, 73, 74, 75, 76, 77, 78, 79, 80, 81, 82, 83, 84, 85, 86, 87, 88, 89, 90, 91, 92, 93, 94, 95, 96, 97, 98, 99, 100, 101] (by decide +kernel) (by decide +kernel)
set_option maxRecDepth 20000 in
theorem gX11_level_X11_no : GoodIn wsX11_level (wsV RX11 177 RX11 yX11_no wsX11_no) := goodIn_app (goodIn_of _ (by decide +kernel)) ggX11_level_X11_no
set_option maxRecDepth 20000 in
theorem ggX11_hidden_X11_good : GoodIn wsX11_hidden wsX11_good := goodIn_r _ [6, 7, 8, 30, 31, 32, 33, 34, 35, 36, 37, 38, 39, 40, 41, 42, 43, 44, 45, 46, 47, 48, 49, 50, 51, 52, 53, 54, 55, 56, 57, 58, 59, 60, 61, 62, 63, 64, 65, 66, 67, 68, 69] (by decide +kernel) (by decide +kernel)
set_option maxRecDepth 20000 in
theorem gX11_hidden_X11_good : GoodIn wsX11_hidden (wsV RX11 174 RX11 yX11_good wsX11_good) := goodIn_app (goodIn_of _ (by decide +kernel)) ggX11_hidden_X11_good
set_option maxRecDepth 20000 in
theorem ggX11_hidden_X11_no : GoodIn wsX11_hidden wsX11_no := goodIn_r _ [29, 8, 30, 31, 32, 33, 34, 35, 36, 37, 38, 39, 40, 41, 42, 43, 44, 45, 46, 47, 48, 49, 50, 51, 52, 53, 54, 55, 56, 57, 58, 59, 60, 61, 62, 63, 64, 65, 66, 67, 68, 69] (by decide +kernel) (by decide +kernel)
set_option maxRecDepth 20000 in
theorem gX11_hidden_X11_no : GoodIn wsX11_hidden (wsV RX11 177 RX11 yX11_no wsX11_no) := goodIn_app (goodIn_of _ (by decide +kernel)) ggX11_hidden_X11_no
set_option maxRecDepth 20000 in
theorem ggX11_answer_X11_good : GoodIn wsX11_answer wsX11_good := goodIn_r _ [6, 7, 8, 30, 31, 32, 33, 34, 35, 36, 37, 38, 39, 40, 41, 42, 43, 44, 45, 46, 47, 48, 49, 50, 51, 52, 53, 54, 55, 56, 57, 58, 59, 60, 61, 62, 63, 64, 65, 66, 67, 68, 69] (by decide +kernel) (by decide +kernel)
set_option maxRecDepth 20000 in
theorem gX11_answer_X11_good : GoodIn wsX11_answer (wsV RX11 174 RX11 yX11_good wsX11_good) := goodIn_app (goodIn_of _ (by decide +kernel)) ggX11_answer_X11_good
set_option maxRecDepth 20000 in
theorem ggX11_answer_X11_no : GoodIn wsX11_answer wsX11_no := goodIn_r _ [12, 8, 30, 31, 32, 33, 34, 35, 36, 37, 38, 39, 40, 41, 42, 43, 44, 45, 46, 47, 48, 49, 50, 51, 52, 53, 54, 55, 56, 57, 58, 59, 60, 61, 62, 63, 64, 65, 66, 67, 68, 69] (by decide +kernel) (by decide +kernel)
set_option maxRecDepth 20000 in
theorem gX11_answer_X11_no : GoodIn wsX11_answer (wsV RX11 177 RX11 yX11_no wsX11_no) := goodIn_app (goodIn_of _ (by decide +kernel)) ggX11_answer_X11_no
set_option maxRecDepth 20000 in
theorem ggX11_disturbed_X11_good : GoodIn wsX11_disturbed wsX11_good := goodIn_r _ [7, 8, 9, 18, 19, 20, 21, 22, 23, 24, 25, 26, 27, 28, 29, 30, 31, 32, 33, 34, 35, 36, 37, 38, 39, 40, 41, 42, 43, 44, 45, 46, 47, 48, 49, 50, 51, 52, 53, 54, 55, 56, 57] (by decide +kernel) (by decide +kernel)
set_option maxRecDepth 20000 in
theorem gX11_disturbed_X11_good : GoodIn wsX11_disturbed (wsV RX11 174 RX11 yX11_good wsX11_good) := goodIn_app (goodIn_of _ (by decide +kernel)) ggX11_disturbed_X11_good
set_option maxRecDepth 20000 in
theorem ggX11_disturbed_X11_no : GoodIn wsX11_disturbed wsX11_no := goodIn_r _ [13, 9, 18, 19, 20, 21, 22, 23, 24, 25, 26, 27, 28, 29, 30, 31, 32, 33, 34, 35, 36, 37, 38, 39, 40, 41, 42, 43, 44, 45, 46, 47, 48, 49, 50, 51, 52, 53, 54, 55, 56, 57] (by decide +kernel) (by decide +kernel)
set_option maxRecDepth 20000 in
theorem gX11_disturbed_X11_no : GoodIn wsX11_disturbed (wsV RX11 177 RX11 yX11_no wsX11_no) := goodIn_app (goodIn_of _ (by decide +kernel)) ggX11_disturbed_X11_no
set_option maxRecDepth 20000 in
theorem ggX11_same_X11_good : GoodIn wsX11_same wsX11_good := goodIn_r _ [6, 7, 8, 25, 26, 27, 28, 29, 30, 31, 32, 33, 34, 35, 36, 37, 38, 39, 40, 41, 42, 43, 44, 45, 46, 47, 48, 49, 50, 51, 52, 53, 54, 55, 56, 57, 58, 59, 60, 61, 62, 63, 64] (by decide +kernel) (by decide +kernel)
set_option maxRecDepth 20000 in
theorem gX11_same_X11_good : GoodIn wsX11_same (wsV RX11 174 RX11 yX11_good wsX11_good) := goodIn_app (goodIn_of _ (by decide +kernel)) ggX11_same_X11_good
set_option maxRecDepth 20000 in
theorem ggX11_same_X11_isSet : GoodIn wsX11_same wsX11_isSet := goodIn_r _ [12, 13, 1, 14, 15, 5, 16, 25, 26, 27, 28, 29, 30, 31, 32, 33, 34, 35, 36, 37, 38, 39, 40, 41, 42, 43, 44, 45, 46, 47, 48, 49, 50, 51, 52, 53, 54, 55, 56, 57, 58, 59, 60, 61, 62, 63, 64] (by decide +kernel) (by decide +kernel)
set_option maxRecDepth 20000 in
theorem gX11_same_X11_isSet : GoodIn wsX11_same (wsV RX11 244 RX11 yX11_isSet wsX11_isSet) := goodIn_app (goodIn_of _ (by decide +kernel)) ggX11_same_X11_isSet
set_option maxRecDepth 20000 in
theorem ggX11_same_X11_less : GoodIn wsX11_same wsX11_less := goodIn_r _ [24, 8, 25, 26, 27, 28, 29, 30, 31, 32, 33, 34, 35, 36, 37, 38, 39, 40, 41, 42, 43, 44, 45, 46, 47, 48, 49, 50, 51, 52, 53, 54, 55, 56, 57, 58, 59, 60, 61, 62, 63, 64] (by decide +kernel) (by decide +kernel)
set_option maxRecDepth 20000 in
theorem gX11_same_X11_less : GoodIn wsX11_same (wsV RX11 320 RX11 yX11_less wsX11_less) := goodIn_app (goodIn_of _ (by decide +kernel)) ggX11_same_X11_less
set_option maxRecDepth 20000 in
theorem ggX11_cycles_X11_good : GoodIn wsX11_cycles wsX11_good := goodIn_r _ [6, 7, 8, 31, 32, 33, 34, 35, 36, 37, 38, 39, 40, 41, 42, 43, 44, 45, 46, 47, 48, 49, 50, 51, 52, 53, 54, 55, 56, 57, 58, 59, 60, 61, 62, 63, 64, 65, 66, 67, 68, 69, 70] (by decide +kernel) (by decide +kernel)
set_option maxRecDepth 20000 in
theorem gX11_cycles_X11_good : GoodIn wsX11_cycles (wsV RX11 174 RX11 yX11_good wsX11_good) := goodIn_app (goodIn_of _ (by decide +kernel)) ggX11_cycles_X11_good
set_option maxRecDepth 20000 in
theorem ggX11_cycles_X11_no : GoodIn wsX11_cycles wsX11_no := goodIn_r _ [30, 8, 31, 32, 33, 34, 35, 36, 37, 38, 39, 40, 41, 42, 43, 44, 45, 46, 47, 48, 49, 50, 51, 52, 53, 54, 55, 56, 57, 58, 59, 60, 61, 62, 63, 64, 65, 66, 67, 68, 69, 70] (by decide +kernel) (by decide +kernel)
set_option maxRecDepth 20000 in
theorem gX11_cycles_X11_no : GoodIn wsX11_cycles (wsV RX11 177 RX11 yX11_no wsX11_no) := goodIn_app (goodIn_of _ (by decide +kernel)) ggX11_cycles_X11_no
set_option maxRecDepth 20000 in
theorem ggX11_cycle_X11_good : GoodIn wsX11_cycle wsX11_good := goodIn_r _ [6, 7, 8, 31, 32, 33, 34, 35, 36, 37, 38, 39, 40, 41, 42, 43, 44, 45, 46, 47, 48, 49, 50, 51, 52, 53, 54, 55, 56, 57, 58, 59, 60, 61, 62, 63, 64, 65, 66, 67, 68, 69, 70] (by decide +kernel) (by decide +kernel)
set_option maxRecDepth 20000 in
theorem gX11_cycle_X11_good : GoodIn wsX11_cycle (wsV RX11 174 RX11 yX11_good wsX11_good) := goodIn_app (goodIn_of _ (by decide +kernel)) ggX11_cycle_X11_good
set_option maxRecDepth 20000 in
theorem ggX11_cycle_X11_no : GoodIn wsX11_cycle wsX11_no := goodIn_r _ [12, 8, 31, 32, 33, 34, 35, 36, 37, 38, 39, 40, 41, 42, 43, 44, 45, 46, 47, 48, 49, 50, 51, 52, 53, 54, 55, 56, 57, 58, 59, 60, 61, 62, 63, 64, 65, 66, 67, 68, 69, 70] (by decide +kernel) (by decide +kernel)
set_option maxRecDepth 20000 in
theorem gX11_cycle_X11_no : GoodIn wsX11_cycle (wsV RX11 177 RX11 yX11_no wsX11_no) := goodIn_app (goodIn_of _ (by decide +kernel)) ggX11_cycle_X11_no
set_option maxRecDepth 20000 in
theorem ggX11_excess_X11_good : GoodIn wsX11_excess wsX11_good := goodIn_r _ [6, 7, 8, 36, 37, 38, 39, 40, 41, 42, 43, 44, 45, 46, 47, 48, 49, 50, 51, 52, 53, 54, 55, 56, 57, 58, 59, 60, 61, 62, 63, 64, 65, 66, 67, 68, 69, 70, 71, 72, 73, 74, 75] (by decide +kernel) (by decide +kernel)
set_option maxRecDepth 20000 in
theorem gX11_excess_X11_good : GoodIn wsX11_excess (wsV RX11 174 RX11 yX11_good wsX11_good) := goodIn_app (goodIn_of _ (by decide +kernel)) ggX11_excess_X11_good
set_option maxRecDepth 20000 in
theorem ggX11_excess_X11_less : GoodIn wsX11_excess wsX11_less := goodIn_r _ [12, 8, 36, 37, 38, 39, 40, 41, 42, 43, 44, 45, 46, 47, 48, 49, 50, 51, 52, 53, 54, 55, 56, 57, 58, 59, 60, 61, 62, 63, 64, 65, 66, 67, 68, 69, 70, 71, 72, 73, 74, 75] (by decide +kernel) (by decide +kernel)
set_option maxRecDepth 20000 in
theorem gX11_excess_X11_less : GoodIn wsX11_excess (wsV RX11 320 RX11 yX11_less wsX11_less) := goodIn_app (goodIn_of _ (by decide +kernel)) ggX11_excess_X11_less
set_option maxRecDepth 20000 in
theorem ggX11_widest_X11_good : GoodIn wsX11_widest wsX11_good := goodIn_r _ [7, 8, 9, 36, 37, 38, 39, 40, 41, 42, 43, 44, 45, 46, 47, 48, 49, 50, 51, 52, 53, 54, 55, 56, 57, 58, 59, 60, 61, 62, 63, 64, 65, 66, 67, 68, 69, 70, 71, 72, 73, 74, 75] (by decide +kernel) (by decide +kernel)
set_option maxRecDepth 20000 in
theorem gX11_widest_X11_good : GoodIn wsX11_widest (wsV RX11 174 RX11 yX11_good wsX11_good) := goodIn_app (goodIn_of _ (by decide +kernel)) ggX11_widest_X11_good
set_option maxRecDepth 20000 in
theorem ggX11_widest_X11_no : GoodIn wsX11_widest wsX11_no := goodIn_r _ [13, 9, 36, 37, 38, 39, 40, 41, 42, 43, 44, 45, 46, 47, 48, 49, 50, 51, 52, 53, 54, 55, 56, 57, 58, 59, 60, 61, 62, 63, 64, 65, 66, 67, 68, 69, 70, 71, 72, 73, 74, 75] (by decide +kernel) (by decide +kernel)
set_option maxRecDepth 20000 in
theorem gX11_widest_X11_no : GoodIn wsX11_widest (wsV RX11 177 RX11 yX11_no wsX11_no) := goodIn_app (goodIn_of _ (by decide +kernel)) ggX11_widest_X11_no
set_option maxRecDepth 20000 in
theorem ggX11_stake_X11_good : GoodIn wsX11_stake wsX11_good := goodIn_r _ [6, 7, 8, 29, 30, 31, 32, 33, 34, 35, 36, 37, 38, 39, 40, 41, 42, 43, 44, 45, 46, 47, 48, 49, 50, 51, 52, 53, 54, 55, 56, 57, 58, 59, 60, 61, 62, 63, 64, 65, 66, 67, 68] (by decide +kernel) (by decide +kernel)
set_option maxRecDepth 20000 in
theorem gX11_stake_X11_good : GoodIn wsX11_stake (wsV RX11 174 RX11 yX11_good wsX11_good) := goodIn_app (goodIn_of _ (by decide +kernel)) ggX11_stake_X11_good
set_option maxRecDepth 20000 in
theorem ggX11_stake_X11_isOutcome : GoodIn wsX11_stake wsX11_isOutcome := goodIn_r _ [12, 13, 14, 15, 16, 5, 17, 18, 19, 20, 21, 22, 23, 24, 29, 30, 31, 32, 33, 34, 35, 36, 37, 38, 39, 40, 41, 42, 43, 44, 45, 46, 47, 48, 49, 50, 51, 52, 53, 54, 55, 56, 57, 58, 59, 60, 61, 62, 63, 64, 65, 66, 67, 68] (by decide +kernel) (by decide +kernel)
set_option maxRecDepth 20000 in
theorem gX11_stake_X11_isOutcome : GoodIn wsX11_stake (wsV RX11 305 RX11 yX11_isOutcome wsX11_isOutcome) := goodIn_app (goodIn_of _ (by decide +kernel)) ggX11_stake_X11_isOutcome
set_option maxRecDepth 20000 in
theorem ggX11_stake_X11_isNot : GoodIn wsX11_stake wsX11_isNot := goodIn_r _ [28, 8, 29, 30, 31, 32, 33, 34, 35, 36, 37, 38, 39, 40, 41, 42, 43, 44, 45, 46, 47, 48, 49, 50, 51, 52, 53, 54, 55, 56, 57, 58, 59, 60, 61, 62, 63, 64, 65, 66, 67, 68] (by decide +kernel) (by decide +kernel)
set_option maxRecDepth 20000 in
theorem gX11_stake_X11_isNot : GoodIn wsX11_stake (wsV RX11 336 RX11 yX11_isNot wsX11_isNot) := goodIn_app (goodIn_of _ (by decide +kernel)) ggX11_stake_X11_isNot
set_option maxRecDepth 20000 in
theorem ggX11_wins_X11_good : GoodIn wsX11_wins wsX11_good := goodIn_r _ [6, 7, 8, 22, 23, 24, 25, 26, 27, 28, 29, 30, 31, 32, 33, 34, 35, 36, 37, 38, 39, 40, 41, 42, 43, 44, 45, 46, 47, 48, 49, 50, 51, 52, 53, 54, 55, 56, 57, 58, 59, 60, 61] (by decide +kernel) (by decide +kernel)
set_option maxRecDepth 20000 in
theorem gX11_wins_X11_good : GoodIn wsX11_wins (wsV RX11 174 RX11 yX11_good wsX11_good) := goodIn_app (goodIn_of _ (by decide +kernel)) ggX11_wins_X11_good
