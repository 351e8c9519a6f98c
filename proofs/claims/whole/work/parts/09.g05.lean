set_option maxRecDepth 20000 in
theorem ggX10_core_X10_noBook : GoodIn wsX10_core wsX10_noBook := goodIn_r _ [6, 7, 8, 32, 33, 34, 35, 36, 37, 38, 39, 40, 41, 42, 43, 44, 45, 46, 47, 48, 49, 50, 51, 52, 53] (by decide +kernel) (by decide +kernel)
set_option maxRecDepth 20000 in
theorem gX10_core_X10_noBook : GoodIn wsX10_core (wsV RX10 131 RX10 yX10_noBook wsX10_noBook) := goodIn_app (goodIn_of _ (by decide +kernel)) ggX10_core_X10_noBook
set_option maxRecDepth 20000 in
theorem ggX10_core_X10_refused : GoodIn wsX10_core wsX10_refused := goodIn_r _ [12, 13, 32, 33, 34, 35, 36, 37, 38, 39, 40, 41, 42, 43, 44, 45] (by decide +kernel) (by decide +kernel)
set_option maxRecDepth 20000 in
theorem gX10_core_X10_refused : GoodIn wsX10_core (wsV RX10 90 RX10 yX10_refused wsX10_refused) := goodIn_app (goodIn_of _ (by decide +kernel)) ggX10_core_X10_refused
set_option maxRecDepth 20000 in
theorem ggX10_can_X10_noBook : GoodIn wsX10_can wsX10_noBook := goodIn_r _ [7, 8, 9, 26, 27, 28, 29, 30, 31, 32, 33, 34, 35, 36, 37, 38, 39, 46, 47, 48, 49, 50, 51, 52, 53] (by decide +kernel) (by decide +kernel)
set_option maxRecDepth 20000 in
theorem gX10_can_X10_noBook : GoodIn wsX10_can (wsV RX10 131 RX10 yX10_noBook wsX10_noBook) := goodIn_app (goodIn_of _ (by decide +kernel)) ggX10_can_X10_noBook
set_option maxRecDepth 20000 in
theorem ggX10_can_X10_refused : GoodIn wsX10_can wsX10_refused := goodIn_r _ [13, 14, 26, 27, 28, 29, 30, 31, 32, 33, 34, 35, 36, 37, 38, 39] (by decide +kernel) (by decide +kernel)
set_option maxRecDepth 20000 in
theorem gX10_can_X10_refused : GoodIn wsX10_can (wsV RX10 90 RX10 yX10_refused wsX10_refused) := goodIn_app (goodIn_of _ (by decide +kernel)) ggX10_can_X10_refused
set_option maxRecDepth 20000 in
theorem ggX10_game_X10_noBook : GoodIn wsX10_game wsX10_noBook := goodIn_r _ [6, 7, 8, 36, 37, 38, 39, 40, 41, 42, 43, 44, 45, 46, 47, 48, 49, 50, 51, 52, 53, 54, 55, 56, 57] (by decide +kernel) (by decide +kernel)
set_option maxRecDepth 20000 in
theorem gX10_game_X10_noBook : GoodIn wsX10_game (wsV RX10 131 RX10 yX10_noBook wsX10_noBook) := goodIn_app (goodIn_of _ (by decide +kernel)) ggX10_game_X10_noBook
set_option maxRecDepth 20000 in
theorem ggX10_game_X10_refused : GoodIn wsX10_game wsX10_refused := goodIn_r _ [12, 13, 36, 37, 38, 39, 40, 41, 42, 43, 44, 45, 46, 47, 48, 49] (by decide +kernel) (by decide +kernel)
set_option maxRecDepth 20000 in
theorem gX10_game_X10_refused : GoodIn wsX10_game (wsV RX10 90 RX10 yX10_refused wsX10_refused) := goodIn_app (goodIn_of _ (by decide +kernel)) ggX10_game_X10_refused
set_option maxRecDepth 20000 in
theorem ggX10_square_X3_hasRay : GoodIn wsX10_square wsX3_hasRay := goodIn_r _ [7, 8, 33, 34, 35, 36, 37, 38, 39, 40, 41, 42, 43, 44] (by decide +kernel) (by decide +kernel)
set_option maxRecDepth 20000 in
theorem gX10_square_X3_hasRay : GoodIn wsX10_square (wsV RX10 243 RX3 yX3_hasRay wsX3_hasRay) := goodIn_app (goodIn_of _ (by decide +kernel)) ggX10_square_X3_hasRay
set_option maxRecDepth 20000 in
theorem ggX10_square_X10_refused : GoodIn wsX10_square wsX10_refused := goodIn_r _ [13, 14, 19, 20, 21, 22, 23, 24, 25, 26, 27, 28, 29, 30, 31, 32] (by decide +kernel) (by decide +kernel)
set_option maxRecDepth 20000 in
theorem gX10_square_X10_refused : GoodIn wsX10_square (wsV RX10 90 RX10 yX10_refused wsX10_refused) := goodIn_app (goodIn_of _ (by decide +kernel)) ggX10_square_X10_refused
set_option maxRecDepth 20000 in
theorem ggX10_corners_X10_noBook : GoodIn wsX10_corners wsX10_noBook := goodIn_r _ [7, 8, 9, 19, 20, 21, 22, 23, 24, 25, 26, 27, 28, 29, 30, 31, 32, 45, 46, 47, 48, 49, 50, 51, 52] (by decide +kernel) (by decide +kernel)
set_option maxRecDepth 20000 in
theorem gX10_corners_X10_noBook : GoodIn wsX10_corners (wsV RX10 131 RX10 yX10_noBook wsX10_noBook) := goodIn_app (goodIn_of _ (by decide +kernel)) ggX10_corners_X10_noBook
set_option maxRecDepth 20000 in
theorem ggX10_corners_X10_refused : GoodIn wsX10_corners wsX10_refused := goodIn_r _ [13, 14, 19, 20, 21, 22, 23, 24, 25, 26, 27, 28, 29, 30, 31, 32] (by decide +kernel) (by decide +kernel)
set_option maxRecDepth 20000 in
theorem gX10_corners_X10_refused : GoodIn wsX10_corners (wsV RX10 90 RX10 yX10_refused wsX10_refused) := goodIn_app (goodIn_of _ (by decide +kernel)) ggX10_corners_X10_refused
set_option maxRecDepth 20000 in
theorem ggX10_colours_X10_noBook : GoodIn wsX10_colours wsX10_noBook := goodIn_r _ [7, 8, 9, 61, 62, 63, 64, 65, 66, 67, 68, 69, 70, 71, 72, 73, 74, 87, 88, 89, 90, 91, 92, 93, 94] (by decide +kernel) (by decide +kernel)
set_option maxRecDepth 20000 in
theorem gX10_colours_X10_noBook : GoodIn wsX10_colours (wsV RX10 131 RX10 yX10_noBook wsX10_noBook) := goodIn_app (goodIn_of _ (by decide +kernel)) ggX10_colours_X10_noBook
set_option maxRecDepth 20000 in
theorem ggX10_colours_X10_refused : GoodIn wsX10_colours wsX10_refused := goodIn_r _ [13, 14, 61, 62, 63, 64, 65, 66, 67, 68, 69, 70, 71, 72, 73, 74] (by decide +kernel) (by decide +kernel)
set_option maxRecDepth 20000 in
theorem gX10_colours_X10_refused : GoodIn wsX10_colours (wsV RX10 90 RX10 yX10_refused wsX10_refused) := goodIn_app (goodIn_of _ (by decide +kernel)) ggX10_colours_X10_refused
set_option maxRecDepth 20000 in
theorem ggX10_ones_X10_noBook : GoodIn wsX10_ones wsX10_noBook := goodIn_r _ [8, 9, 10, 62, 63, 64, 65, 66, 67, 68, 69, 70, 71, 72, 73, 74, 75, 88, 89, 90, 91, 92, 93, 94, 95] (by decide +kernel) (by decide +kernel)
set_option maxRecDepth 20000 in
theorem gX10_ones_X10_noBook : GoodIn wsX10_ones (wsV RX10 131 RX10 yX10_noBook wsX10_noBook) := goodIn_app (goodIn_of _ (by decide +kernel)) ggX10_ones_X10_noBook
set_option maxRecDepth 20000 in
theorem ggX10_ones_X10_refused : GoodIn wsX10_ones wsX10_refused := goodIn_r _ [14, 15, 62, 63, 64, 65, 66, 67, 68, 69, 70, 71, 72, 73, 74, 75] (by decide +kernel) (by decide +kernel)
set_option maxRecDepth 20000 in
theorem gX10_ones_X10_refused : GoodIn wsX10_ones (wsV RX10 90 RX10 yX10_refused wsX10_refused) := goodIn_app (goodIn_of _ (by decide +kernel)) ggX10_ones_X10_refused
set_option maxRecDepth 20000 in
theorem ggX10_spare_X10_noBook : GoodIn wsX10_spare wsX10_noBook := goodIn_r _ [7, 8, 9, 61, 62, 63, 64, 65, 66, 67, 68, 69, 70, 71, 72, 73, 74, 87, 88, 89, 90, 91, 92, 93, 94] (by decide +kernel) (by decide +kernel)
set_option maxRecDepth 20000 in
theorem gX10_spare_X10_noBook : GoodIn wsX10_spare (wsV RX10 131 RX10 yX10_noBook wsX10_noBook) := goodIn_app (goodIn_of _ (by decide +kernel)) ggX10_spare_X10_noBook
set_option maxRecDepth 20000 in
theorem ggX10_spare_X10_refused : GoodIn wsX10_spare wsX10_refused := goodIn_r _ [13, 14, 61, 62, 63, 64, 65, 66, 67, 68, 69, 70, 71, 72, 73, 74] (by decide +kernel) (by decide +kernel)
set_option maxRecDepth 20000 in
theorem gX10_spare_X10_refused : GoodIn wsX10_spare (wsV RX10 90 RX10 yX10_refused wsX10_refused) := goodIn_app (goodIn_of _ (by decide +kernel)) ggX10_spare_X10_refused
set_option maxRecDepth 20000 in
theorem ggX10_critical_X10_noBook : GoodIn wsX10_critical wsX10_noBook := goodIn_r _ [8, 9, 10, 62, 63, 64, 65, 66, 67, 68, 69, 70, 71, 72, 73, 74, 75, 88, 89, 90, 91, 92, 93, 94, 95] (by decide +kernel) (by decide +kernel)
set_option maxRecDepth 20000 in
theorem gX10_critical_X10_noBook : GoodIn wsX10_critical (wsV RX10 131 RX10 yX10_noBook wsX10_noBook) := goodIn_app (goodIn_of _ (by decide +kernel)) ggX10_critical_X10_noBook
set_option maxRecDepth 20000 in
theorem ggX10_critical_X10_refused : GoodIn wsX10_critical wsX10_refused := goodIn_r _ [14, 15, 62, 63, 64, 65, 66, 67, 68, 69, 70, 71, 72, 73, 74, 75] (by decide +kernel) (by decide +kernel)
set_option maxRecDepth 20000 in
theorem gX10_critical_X10_refused : GoodIn wsX10_critical (wsV RX10 90 RX10 yX10_refused wsX10_refused) := goodIn_app (goodIn_of _ (by decide +kernel)) ggX10_critical_X10_refused
set_option maxRecDepth 20000 in
theorem ggX10_memory_X10_noBook : GoodIn wsX10_memory wsX10_noBook := goodIn_r _ [7, 8, 9, 48, 49, 50, 51, 52, 53, 54, 55, 56, 57, 58, 59, 60, 61, 72, 73, 74, 75, 76, 77, 78, 79] (by decide +kernel) (by decide +kernel)
set_option maxRecDepth 20000 in
theorem gX10_memory_X10_noBook : GoodIn wsX10_memory (wsV RX10 131 RX10 yX10_noBook wsX10_noBook) := goodIn_app (goodIn_of _ (by decide +kernel)) ggX10_memory_X10_noBook
set_option maxRecDepth 20000 in
theorem ggX10_memory_X10_refused : GoodIn wsX10_memory wsX10_refused := goodIn_r _ [13, 14, 48, 49, 50, 51, 52, 53, 54, 55, 56, 57, 58, 59, 60, 61] (by decide +kernel) (by decide +kernel)
set_option maxRecDepth 20000 in
theorem gX10_memory_X10_refused : GoodIn wsX10_memory (wsV RX10 90 RX10 yX10_refused wsX10_refused) := goodIn_app (goodIn_of _ (by decide +kernel)) ggX10_memory_X10_refused
set_option maxRecDepth 20000 in
theorem ggX10_machine_X8_hasLook : GoodIn wsX10_machine wsX8_hasLook := goodIn_r _ [8, 9, 77, 78, 79, 80, 81, 82, 83, 84] (by decide +kernel) (by decide +kernel)
set_option maxRecDepth 20000 in
theorem gX10_machine_X8_hasLook : GoodIn wsX10_machine (wsV RX10 142 RX8 yX8_hasLook wsX8_hasLook) := goodIn_app (goodIn_of _ (by decide +kernel)) ggX10_machine_X8_hasLook
set_option maxRecDepth 20000 in
theorem ggX10_machine_X10_refused : GoodIn wsX10_machine wsX10_refused := goodIn_r _ [14, 15, 53, 54, 55, 56, 57, 58, 59, 60, 61, 62, 63, 64, 65, 66] (by decide +kernel) (by decide +kernel)
set_option maxRecDepth 20000 in
theorem gX10_machine_X10_refused : GoodIn wsX10_machine (wsV RX10 90 RX10 yX10_refused wsX10_refused) := goodIn_app (goodIn_of _ (by decide +kernel)) ggX10_machine_X10_refused
set_option maxRecDepth 20000 in
theorem ggX10_flip_X8_hasLook : GoodIn wsX10_flip wsX8_hasLook := goodIn_r _ [7, 8, 69, 70, 71, 72, 73, 74, 75, 76] (by decide +kernel) (by decide +kernel)
set_option maxRecDepth 20000 in
theorem gX10_flip_X8_hasLook : GoodIn wsX10_flip (wsV RX10 142 RX8 yX8_hasLook wsX8_hasLook) := goodIn_app (goodIn_of _ (by decide +kernel)) ggX10_flip_X8_hasLook
set_option maxRecDepth 20000 in
theorem ggX10_flip_X10_denied : GoodIn wsX10_flip wsX10_denied := goodIn_r _ [13, 14, 55, 56, 57, 58, 59, 60, 61, 62, 63, 64, 65, 66, 67, 68] (by decide +kernel) (by decide +kernel)
set_option maxRecDepth 20000 in
theorem gX10_flip_X10_denied : GoodIn wsX10_flip (wsV RX10 197 RX10 yX10_denied wsX10_denied) := goodIn_app (goodIn_of _ (by decide +kernel)) ggX10_flip_X10_denied
set_option maxRecDepth 20000 in
theorem ggX10_drop_X8_hasSet : GoodIn wsX10_drop wsX8_hasSet := goodIn_r _ [7, 8, 64, 65, 66, 67, 68, 69, 70, 71] (by decide +kernel) (by decide +kernel)
set_option maxRecDepth 20000 in
theorem gX10_drop_X8_hasSet : GoodIn wsX10_drop (wsV RX10 282 RX8 yX8_hasSet wsX8_hasSet) := goodIn_app (goodIn_of _ (by decide +kernel)) ggX10_drop_X8_hasSet
set_option maxRecDepth 20000 in
theorem ggX10_drop_X10_denied : GoodIn wsX10_drop wsX10_denied := goodIn_r _ [13, 14, 50, 51, 52, 53, 54, 55, 56, 57, 58, 59, 60, 61, 62, 63] (by decide +kernel) (by decide +kernel)
set_option maxRecDepth 20000 in
theorem gX10_drop_X10_denied : GoodIn wsX10_drop (wsV RX10 197 RX10 yX10_denied wsX10_denied) := goodIn_app (goodIn_of _ (by decide +kernel)) ggX10_drop_X10_denied
set_option maxRecDepth 20000 in
theorem ggX10_forget_X8_hasLook : GoodIn wsX10_forget wsX8_hasLook := goodIn_r _ [7, 8, 77, 78, 79, 80, 81, 82, 83, 84] (by decide +kernel) (by decide +kernel)
set_option maxRecDepth 20000 in
theorem gX10_forget_X8_hasLook : GoodIn wsX10_forget (wsV RX10 142 RX8 yX8_hasLook wsX8_hasLook) := goodIn_app (goodIn_of _ (by decide +kernel)) ggX10_forget_X8_hasLook
set_option maxRecDepth 20000 in
theorem ggX10_forget_X10_denied : GoodIn wsX10_forget wsX10_denied := goodIn_r _ [13, 14, 63, 64, 65, 66, 67, 68, 69, 70, 71, 72, 73, 74, 75, 76] (by decide +kernel) (by decide +kernel)
set_option maxRecDepth 20000 in
theorem gX10_forget_X10_denied : GoodIn wsX10_forget (wsV RX10 197 RX10 yX10_denied wsX10_denied) := goodIn_app (goodIn_of _ (by decide +kernel)) ggX10_forget_X10_denied
set_option maxRecDepth 20000 in
theorem ggX10_shift_X8_hasOutcome : GoodIn wsX10_shift wsX8_hasOutcome := goodIn_r _ [8, 9, 10, 11, 7, 12, 13, 14, 15, 16, 17, 18, 76, 77, 78, 79, 80, 81, 82, 83] (by decide +kernel) (by decide +kernel)
set_option maxRecDepth 20000 in
theorem gX10_shift_X8_hasOutcome : GoodIn wsX10_shift (wsV RX10 156 RX8 yX8_hasOutcome wsX8_hasOutcome) := goodIn_app (goodIn_of _ (by decide +kernel)) ggX10_shift_X8_hasOutcome
set_option maxRecDepth 20000 in
theorem ggX10_shift_X10_denied : GoodIn wsX10_shift wsX10_denied := goodIn_r _ [23, 24, 62, 63, 64, 65, 66, 67, 68, 69, 70, 71, 72, 73, 74, 75] (by decide +kernel) (by decide +kernel)
set_option maxRecDepth 20000 in
theorem gX10_shift_X10_denied : GoodIn wsX10_shift (wsV RX10 197 RX10 yX10_denied wsX10_denied) := goodIn_app (goodIn_of _ (by decide +kernel)) ggX10_shift_X10_denied
