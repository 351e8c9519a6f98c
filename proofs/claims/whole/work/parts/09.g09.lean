set_option maxRecDepth 20000 in
theorem ggX11_critical_X11_good : GoodIn wsX11_critical wsX11_good := goodIn_r _ [7, 8, 9, 50, 51, 52, 53, 54, 55, 56, 57, 58, 59, 60, 61, 62, 63, 64, 65, 66, 67, 68, 69, 70, 71, 72, 73, 74, 75, 76, 77, 78, 79, 80, 81, 82, 83, 84, 85, 86, 87, 88, 89] (by decide +kernel) (by decide +kernel)
set_option maxRecDepth 20000 in
theorem gX11_critical_X11_good : GoodIn wsX11_critical (wsV RX11 174 RX11 yX11_good wsX11_good) := goodIn_app (goodIn_of _ (by decide +kernel)) ggX11_critical_X11_good
set_option maxRecDepth 20000 in
theorem ggX11_critical_X11_no : GoodIn wsX11_critical wsX11_no := goodIn_r _ [13, 9, 50, 51, 52, 53, 54, 55, 56, 57, 58, 59, 60, 61, 62, 63, 64, 65, 66, 67, 68, 69, 70, 71, 72, 73, 74, 75, 76, 77, 78, 79, 80, 81, 82, 83, 84, 85, 86, 87, 88, 89] (by decide +kernel) (by decide +kernel)
set_option maxRecDepth 20000 in
theorem gX11_critical_X11_no : GoodIn wsX11_critical (wsV RX11 177 RX11 yX11_no wsX11_no) := goodIn_app (goodIn_of _ (by decide +kernel)) ggX11_critical_X11_no
set_option maxRecDepth 20000 in
theorem ggX11_memory_X11_good : GoodIn wsX11_memory wsX11_good := goodIn_r _ [6, 7, 8, 24, 25, 26, 27, 28, 29, 30, 31, 32, 33, 34, 35, 36, 37, 38, 39, 40, 41, 42, 43, 44, 45, 46, 47, 48, 49, 50, 51, 52, 53, 54, 55, 56, 57, 58, 59, 60, 61, 62, 63] (by decide +kernel) (by decide +kernel)
set_option maxRecDepth 20000 in
theorem gX11_memory_X11_good : GoodIn wsX11_memory (wsV RX11 174 RX11 yX11_good wsX11_good) := goodIn_app (goodIn_of _ (by decide +kernel)) ggX11_memory_X11_good
set_option maxRecDepth 20000 in
theorem ggX11_memory_X11_no : GoodIn wsX11_memory wsX11_no := goodIn_r _ [23, 8, 24, 25, 26, 27, 28, 29, 30, 31, 32, 33, 34, 35, 36, 37, 38, 39, 40, 41, 42, 43, 44, 45, 46, 47, 48, 49, 50, 51, 52, 53, 54, 55, 56, 57, 58, 59, 60, 61, 62, 63] (by decide +kernel) (by decide +kernel)
set_option maxRecDepth 20000 in
theorem gX11_memory_X11_no : GoodIn wsX11_memory (wsV RX11 177 RX11 yX11_no wsX11_no) := goodIn_app (goodIn_of _ (by decide +kernel)) ggX11_memory_X11_no
set_option maxRecDepth 20000 in
theorem ggX11_machine_X11_good : GoodIn wsX11_machine wsX11_good := goodIn_r _ [7, 8, 9, 31, 32, 33, 34, 35, 36, 37, 38, 39, 40, 41, 42, 43, 44, 45, 46, 47, 48, 49, 50, 51, 52, 53, 54, 55, 56, 57, 58, 59, 60, 61, 62, 63, 64, 65, 66, 67, 68, 69, 70] (by decide +kernel) (by decide +kernel)
set_option maxRecDepth 20000 in
theorem gX11_machine_X11_good : GoodIn wsX11_machine (wsV RX11 174 RX11 yX11_good wsX11_good) := goodIn_app (goodIn_of _ (by decide +kernel)) ggX11_machine_X11_good
set_option maxRecDepth 20000 in
theorem ggX11_machine_X11_isLook : GoodIn wsX11_machine wsX11_isLook := goodIn_r _ [13, 14, 15, 16, 17, 6, 18, 31, 32, 33, 34, 35, 36, 37, 38, 39, 40, 41, 42, 43, 44, 45, 46, 47, 48, 49, 50, 51, 52, 53, 54, 55, 56, 57, 58, 59, 60, 61, 62, 63, 64, 65, 66, 67, 68, 69, 70] (by decide +kernel) (by decide +kernel)
set_option maxRecDepth 20000 in
theorem gX11_machine_X11_isLook : GoodIn wsX11_machine (wsV RX11 296 RX11 yX11_isLook wsX11_isLook) := goodIn_app (goodIn_of _ (by decide +kernel)) ggX11_machine_X11_isLook
set_option maxRecDepth 20000 in
theorem ggX11_machine_X11_no : GoodIn wsX11_machine wsX11_no := goodIn_r _ [22, 9, 31, 32, 33, 34, 35, 36, 37, 38, 39, 40, 41, 42, 43, 44, 45, 46, 47, 48, 49, 50, 51, 52, 53, 54, 55, 56, 57, 58, 59, 60, 61, 62, 63, 64, 65, 66, 67, 68, 69, 70] (by decide +kernel) (by decide +kernel)
set_option maxRecDepth 20000 in
theorem gX11_machine_X11_no : GoodIn wsX11_machine (wsV RX11 177 RX11 yX11_no wsX11_no) := goodIn_app (goodIn_of _ (by decide +kernel)) ggX11_machine_X11_no
set_option maxRecDepth 20000 in
theorem ggX11_flip_X11_good : GoodIn wsX11_flip wsX11_good := goodIn_r _ [8, 9, 10, 40, 41, 42, 43, 44, 45, 46, 47, 48, 49, 50, 51, 52, 53, 54, 55, 56, 57, 58, 59, 60, 61, 62, 63, 64, 65, 66, 67, 68, 69, 70, 71, 72, 73, 74, 75, 76, 77, 78, 79] (by decide +kernel) (by decide +kernel)
set_option maxRecDepth 20000 in
theorem gX11_flip_X11_good : GoodIn wsX11_flip (wsV RX11 174 RX11 yX11_good wsX11_good) := goodIn_app (goodIn_of _ (by decide +kernel)) ggX11_flip_X11_good
set_option maxRecDepth 20000 in
theorem ggX11_flip_X11_isLook : GoodIn wsX11_flip wsX11_isLook := goodIn_r _ [14, 15, 1, 16, 17, 7, 18, 40, 41, 42, 43, 44, 45, 46, 47, 48, 49, 50, 51, 52, 53, 54, 55, 56, 57, 58, 59, 60, 61, 62, 63, 64, 65, 66, 67, 68, 69, 70, 71, 72, 73, 74, 75, 76, 77, 78, 79] (by decide +kernel) (by decide +kernel)
set_option maxRecDepth 20000 in
theorem gX11_flip_X11_isLook : GoodIn wsX11_flip (wsV RX11 296 RX11 yX11_isLook wsX11_isLook) := goodIn_app (goodIn_of _ (by decide +kernel)) ggX11_flip_X11_isLook
set_option maxRecDepth 20000 in
theorem ggX11_flip_X11_isNot : GoodIn wsX11_flip wsX11_isNot := goodIn_r _ [22, 10, 40, 41, 42, 43, 44, 45, 46, 47, 48, 49, 50, 51, 52, 53, 54, 55, 56, 57, 58, 59, 60, 61, 62, 63, 64, 65, 66, 67, 68, 69, 70, 71, 72, 73, 74, 75, 76, 77, 78, 79] (by decide +kernel) (by decide +kernel)
set_option maxRecDepth 20000 in
theorem gX11_flip_X11_isNot : GoodIn wsX11_flip (wsV RX11 336 RX11 yX11_isNot wsX11_isNot) := goodIn_app (goodIn_of _ (by decide +kernel)) ggX11_flip_X11_isNot
set_option maxRecDepth 20000 in
theorem ggX11_drop_X11_good : GoodIn wsX11_drop wsX11_good := goodIn_r _ [7, 8, 9, 41, 42, 43, 44, 45, 46, 47, 48, 49, 50, 51, 52, 53, 54, 55, 56, 57, 58, 59, 60, 61, 62, 63, 64, 65, 66, 67, 68, 69, 70, 71, 72, 73, 74, 75, 76, 77, 78, 79, 80] (by decide +kernel) (by decide +kernel)
set_option maxRecDepth 20000 in
theorem gX11_drop_X11_good : GoodIn wsX11_drop (wsV RX11 174 RX11 yX11_good wsX11_good) := goodIn_app (goodIn_of _ (by decide +kernel)) ggX11_drop_X11_good
set_option maxRecDepth 20000 in
theorem ggX11_drop_X11_isSet : GoodIn wsX11_drop wsX11_isSet := goodIn_r _ [13, 14, 1, 15, 16, 6, 17, 41, 42, 43, 44, 45, 46, 47, 48, 49, 50, 51, 52, 53, 54, 55, 56, 57, 58, 59, 60, 61, 62, 63, 64, 65, 66, 67, 68, 69, 70, 71, 72, 73, 74, 75, 76, 77, 78, 79, 80] (by decide +kernel) (by decide +kernel)
set_option maxRecDepth 20000 in
theorem gX11_drop_X11_isSet : GoodIn wsX11_drop (wsV RX11 244 RX11 yX11_isSet wsX11_isSet) := goodIn_app (goodIn_of _ (by decide +kernel)) ggX11_drop_X11_isSet
set_option maxRecDepth 20000 in
theorem ggX11_drop_X11_isNot : GoodIn wsX11_drop wsX11_isNot := goodIn_r _ [21, 9, 41, 42, 43, 44, 45, 46, 47, 48, 49, 50, 51, 52, 53, 54, 55, 56, 57, 58, 59, 60, 61, 62, 63, 64, 65, 66, 67, 68, 69, 70, 71, 72, 73, 74, 75, 76, 77, 78, 79, 80] (by decide +kernel) (by decide +kernel)
set_option maxRecDepth 20000 in
theorem gX11_drop_X11_isNot : GoodIn wsX11_drop (wsV RX11 336 RX11 yX11_isNot wsX11_isNot) := goodIn_app (goodIn_of _ (by decide +kernel)) ggX11_drop_X11_isNot
set_option maxRecDepth 20000 in
theorem ggX11_forget_X11_good : GoodIn wsX11_forget wsX11_good := goodIn_r _ [8, 9, 10, 41, 42, 43, 44, 45, 46, 47, 48, 49, 50, 51, 52, 53, 54, 55, 56, 57, 58, 59, 60, 61, 62, 63, 64, 65, 66, 67, 68, 69, 70, 71, 72, 73, 74, 75, 76, 77, 78, 79, 80] (by decide +kernel) (by decide +kernel)
set_option maxRecDepth 20000 in
theorem gX11_forget_X11_good : GoodIn wsX11_forget (wsV RX11 174 RX11 yX11_good wsX11_good) := goodIn_app (goodIn_of _ (by decide +kernel)) ggX11_forget_X11_good
set_option maxRecDepth 20000 in
theorem ggX11_forget_X11_isLook : GoodIn wsX11_forget wsX11_isLook := goodIn_r _ [14, 15, 1, 16, 17, 7, 18, 41, 42, 43, 44, 45, 46, 47, 48, 49, 50, 51, 52, 53, 54, 55, 56, 57, 58, 59, 60, 61, 62, 63, 64, 65, 66, 67, 68, 69, 70, 71, 72, 73, 74, 75, 76, 77, 78, 79, 80] (by decide +kernel) (by decide +kernel)
set_option maxRecDepth 20000 in
theorem gX11_forget_X11_isLook : GoodIn wsX11_forget (wsV RX11 296 RX11 yX11_isLook wsX11_isLook) := goodIn_app (goodIn_of _ (by decide +kernel)) ggX11_forget_X11_isLook
set_option maxRecDepth 20000 in
theorem ggX11_forget_X11_isNot : GoodIn wsX11_forget wsX11_isNot := goodIn_r _ [22, 10, 41, 42, 43, 44, 45, 46, 47, 48, 49, 50, 51, 52, 53, 54, 55, 56, 57, 58, 59, 60, 61, 62, 63, 64, 65, 66, 67, 68, 69, 70, 71, 72, 73, 74, 75, 76, 77, 78, 79, 80] (by decide +kernel) (by decide +kernel)
set_option maxRecDepth 20000 in
theorem gX11_forget_X11_isNot : GoodIn wsX11_forget (wsV RX11 336 RX11 yX11_isNot wsX11_isNot) := goodIn_app (goodIn_of _ (by decide +kernel)) ggX11_forget_X11_isNot
set_option maxRecDepth 20000 in
theorem ggX11_shift_X11_good : GoodIn wsX11_shift wsX11_good := goodIn_r _ [7, 8, 9, 43, 44, 45, 46, 47, 48, 49, 50, 51, 52, 53, 54, 55, 56, 57, 58, 59, 60, 61, 62, 63, 64, 65, 66, 67, 68, 69, 70, 71, 72, 73, 74, 75, 76, 77, 78, 79, 80, 81, 82] (by decide +kernel) (by decide +kernel)
set_option maxRecDepth 20000 in
theorem gX11_shift_X11_good : GoodIn wsX11_shift (wsV RX11 174 RX11 yX11_good wsX11_good) := goodIn_app (goodIn_of _ (by decide +kernel)) ggX11_shift_X11_good
set_option maxRecDepth 20000 in
theorem ggX11_shift_X11_isOutcome : GoodIn wsX11_shift wsX11_isOutcome := goodIn_r _ [13, 1, 14, 15, 16, 6, 17, 18, 19, 20, 21, 22, 23, 24, 43, 44, 45, 46, 47, 48, 49, 50, 51, 52, 53, 54, 55, 56, 57, 58, 59, 60, 61, 62, 63, 64, 65, 66, 67, 68, 69, 70, 71, 72, 73, 74, 75, 76, 77, 78, 79, 80, 81, 82] (by decide +kernel) (by decide +kernel)
set_option maxRecDepth 20000 in
theorem gX11_shift_X11_isOutcome : GoodIn wsX11_shift (wsV RX11 305 RX11 yX11_isOutcome wsX11_isOutcome) := goodIn_app (goodIn_of _ (by decide +kernel)) ggX11_shift_X11_isOutcome
set_option maxRecDepth 20000 in
theorem ggX11_shift_X11_isNot : GoodIn wsX11_shift wsX11_isNot := goodIn_r _ [28, 9, 43, 44, 45, 46, 47, 48, 49, 50, 51, 52, 53, 54, 55, 56, 57, 58, 59, 60, 61, 62, 63, 64, 65, 66, 67, 68, 69, 70, 71, 72, 73, 74, 75, 76, 77, 78, 79, 80, 81, 82] (by decide +kernel) (by decide +kernel)
set_option maxRecDepth 20000 in
theorem gX11_shift_X11_isNot : GoodIn wsX11_shift (wsV RX11 336 RX11 yX11_isNot wsX11_isNot) := goodIn_app (goodIn_of _ (by decide +kernel)) ggX11_shift_X11_isNot
set_option maxRecDepth 20000 in
theorem ggX11_undo_X11_good : GoodIn wsX11_undo wsX11_good := goodIn_r _ [13, 14, 15, 31, 32, 33, 34, 35, 36, 37, 38, 39, 40, 41, 42, 43, 44, 45, 46, 47, 48, 49, 50, 51, 52, 53, 54, 55, 56, 57, 58, 59, 60, 61, 62, 63, 64, 65, 66, 67, 68, 69, 70] (by decide +kernel) (by decide +kernel)
set_option maxRecDepth 20000 in
theorem gX11_undo_X11_good : GoodIn wsX11_undo (wsV RX11 174 RX11 yX11_good wsX11_good) := goodIn_app (goodIn_of _ (by decide +kernel)) ggX11_undo_X11_good
set_option maxRecDepth 20000 in
theorem ggX11_undo_X11_isNot : GoodIn wsX11_undo wsX11_isNot := goodIn_r _ [19, 15, 31, 32, 33, 34, 35, 36, 37, 38, 39, 40, 41, 42, 43, 44, 45, 46, 47, 48, 49, 50, 51, 52, 53, 54, 55, 56, 57, 58, 59, 60, 61, 62, 63, 64, 65, 66, 67, 68, 69, 70] (by decide +kernel) (by decide +kernel)
set_option maxRecDepth 20000 in
theorem gX11_undo_X11_isNot : GoodIn wsX11_undo (wsV RX11 336 RX11 yX11_isNot wsX11_isNot) := goodIn_app (goodIn_of _ (by decide +kernel)) ggX11_undo_X11_isNot
set_option maxRecDepth 20000 in
theorem ggX11_redo_X11_good : GoodIn wsX11_redo wsX11_good := goodIn_r _ [13, 14, 15, 31, 32, 33, 34, 35, 36, 37, 38, 39, 40, 41, 42, 43, 44, 45, 46, 47, 48, 49, 50, 51, 52, 53, 54, 55, 56, 57, 58, 59, 60, 61, 62, 63, 64, 65, 66, 67, 68, 69, 70] (by decide +kernel) (by decide +kernel)
set_option maxRecDepth 20000 in
theorem gX11_redo_X11_good : GoodIn wsX11_redo (wsV RX11 174 RX11 yX11_good wsX11_good) := goodIn_app (goodIn_of _ (by decide +kernel)) ggX11_redo_X11_good
set_option maxRecDepth 20000 in
theorem ggX11_redo_X11_isNot : GoodIn wsX11_redo wsX11_isNot := goodIn_r _ [19, 15, 31, 32, 33, 34, 35, 36, 37, 38, 39, 40, 41, 42, 43, 44, 45, 46, 47, 48, 49, 50, 51, 52, 53, 54, 55, 56, 57, 58, 59, 60, 61, 62, 63, 64, 65, 66, 67, 68, 69, 70] (by decide +kernel) (by decide +kernel)
set_option maxRecDepth 20000 in
theorem gX11_redo_X11_isNot : GoodIn wsX11_redo (wsV RX11 336 RX11 yX11_isNot wsX11_isNot) := goodIn_app (goodIn_of _ (by decide +kernel)) ggX11_redo_X11_isNot
set_option maxRecDepth 20000 in
theorem ggX11_mark_X11_good : GoodIn wsX11_mark wsX11_good := goodIn_r _ [9, 10, 11, 19, 20, 21, 22, 23, 24, 25, 26, 27, 28, 29, 30, 31, 32, 33, 34, 35, 36, 37, 38, 39, 40, 41, 42, 43, 44, 45, 46, 47, 48, 49, 50, 51, 52, 53, 54, 55, 56, 57, 58] (by decide +kernel) (by decide +kernel)
set_option maxRecDepth 20000 in
theorem gX11_mark_X11_good : GoodIn wsX11_mark (wsV RX11 174 RX11 yX11_good wsX11_good) := goodIn_app (goodIn_of _ (by decide +kernel)) ggX11_mark_X11_good
set_option maxRecDepth 20000 in
theorem ggX11_mark_X11_no : GoodIn wsX11_mark wsX11_no := goodIn_r _ [15, 11, 19, 20, 21, 22, 23, 24, 25, 26, 27, 28, 29, 30, 31, 32, 33, 34, 35, 36, 37, 38, 39, 40, 41, 42, 43, 44, 45, 46, 47, 48, 49, 50, 51, 52, 53, 54, 55, 56, 57, 58] (by decide +kernel) (by decide +kernel)
set_option maxRecDepth 20000 in
theorem gX11_mark_X11_no : GoodIn wsX11_mark (wsV RX11 177 RX11 yX11_no wsX11_no) := goodIn_app (goodIn_of _ (by decide +kernel)) ggX11_mark_X11_no
set_option maxRecDepth 20000 in
theorem ggX11_back_X11_good : GoodIn wsX11_back wsX11_good := goodIn_r _ [10, 11, 12, 28, 29, 30, 31, 32, 33, 34, 35, 36, 37, 38, 39, 40, 41, 42, 43, 44, 45, 46, 47, 48, 49, 50, 51, 52, 53, 54, 55, 56, 57, 58, 59, 60, 61, 62, 63, 64, 65, 66, 67] (by decide +kernel) (by decide +kernel)
set_option maxRecDepth 20000 in
theorem gX11_back_X11_good : GoodIn wsX11_back (wsV RX11 174 RX11 yX11_good wsX11_good) := goodIn_app (goodIn_of _ (by decide +kernel)) ggX11_back_X11_good
set_option maxRecDepth 20000 in
theorem ggX11_back_X11_within : GoodIn wsX11_back wsX11_within := goodIn_r _ [15] (by decide +kernel) (by decide +kernel)
set_option maxRecDepth 20000 in
theorem gX11_back_X11_within : GoodIn wsX11_back (va_wsS RX11 170 yX11_within wsX11_within) := goodIn_app (goodIn_of _ (by decide +kernel)) ggX11_back_X11_within
set_option maxRecDepth 20000 in
theorem ggX11_back_X11_isNot : GoodIn wsX11_back wsX11_isNot := goodIn_r _ [19, 12, 28, 29, 30, 31, 32, 33, 34, 35, 36, 37, 38, 39, 40, 41, 42, 43, 44, 45, 46, 47, 48, 49, 50, 51, 52, 53, 54, 55, 56, 57, 58, 59, 60, 61, 62, 63, 64, 65, 66, 67] (by decide +kernel) (by decide +kernel)
set_option maxRecDepth 20000 in
theorem gX11_back_X11_isNot : GoodIn wsX11_back (wsV RX11 336 RX11 yX11_isNot wsX11_isNot) := goodIn_app (goodIn_of _ (by decide +kernel)) ggX11_back_X11_isNot
set_option maxRecDepth 20000 in
theorem ggX11_act_X11_good : GoodIn wsX11_act wsX11_good := goodIn_r _ [8, 9, 10, 18, 19, 20, 21, 22, 23, 24, 25, 26, 27, 28, 29, 30, 31, 32, 33, 34, 35, 36, 37, 38, 39, 40, 41, 42, 43, 44, 45, 46, 47, 48, 49, 50, 51, 52, 53, 54, 55, 56, 57] (by decide +kernel) (by decide +kernel)
set_option maxRecDepth 20000 in
theorem gX11_act_X11_good : GoodIn wsX11_act (wsV RX11 174 RX11 yX11_good wsX11_good) := goodIn_app (goodIn_of _ (by decide +kernel)) ggX11_act_X11_good
set_option maxRecDepth 20000 in
theorem ggX11_act_X11_no : GoodIn wsX11_act wsX11_no := goodIn_r _ [17, 10, 18, 19, 20, 21, 22, 23, 24, 25, 26, 27, 28, 29, 30, 31, 32, 33, 34, 35, 36, 37, 38, 39, 40, 41, 42, 43, 44, 45, 46, 47, 48, 49, 50, 51, 52, 53, 54, 55, 56, 57] (by decide +kernel) (by decide +kernel)
set_option maxRecDepth 20000 in
theorem gX11_act_X11_no : GoodIn wsX11_act (wsV RX11 177 RX11 yX11_no wsX11_no) := goodIn_app (goodIn_of _ (by decide +kernel)) ggX11_act_X11_no
