set_option maxRecDepth 20000 in
theorem ggX10_undo_X4_takeBack : GoodIn wsX10_undo wsX4_takeBack := goodIn_r _ [6, 7, 8, 9, 10, 11, 12, 13, 14, 15, 16, 17, 18, 19, 20, 21, 22, 23, 24, 25, 26, 27, 28, 29, 30, 31, 32, 57, 58, 59, 60, 61, 62, 63, 64, 65, 66, 67, 68, 69, 70, 71] (by decide +kernel) (by decide +kernel)
set_option maxRecDepth 20000 in
theorem gX10_undo_X4_takeBack : GoodIn wsX10_undo (wsV RX10 304 RX4 yX4_takeBack wsX4_takeBack) := goodIn_app (goodIn_of _ (by decide +kernel)) ggX10_undo_X4_takeBack
set_option maxRecDepth 20000 in
theorem ggX10_undo_X10_denied : GoodIn wsX10_undo wsX10_denied := goodIn_r _ [42, 38, 43, 44, 45, 46, 47, 48, 49, 50, 51, 52, 53, 54, 55, 56] (by decide +kernel) (by decide +kernel)
set_option maxRecDepth 20000 in
theorem gX10_undo_X10_denied : GoodIn wsX10_undo (wsV RX10 197 RX10 yX10_denied wsX10_denied) := goodIn_app (goodIn_of _ (by decide +kernel)) ggX10_undo_X10_denied
set_option maxRecDepth 20000 in
theorem ggX10_redo_X4_makeAgain : GoodIn wsX10_redo wsX4_makeAgain := goodIn_r _ [6, 7, 8, 9, 10, 11, 12, 13, 14, 15, 16, 17, 18, 19, 20, 21, 22, 23, 24, 25, 26, 27, 28, 29, 54, 55, 56, 57, 58, 59, 60, 61, 62, 63, 64, 65, 66, 67, 68] (by decide +kernel) (by decide +kernel)
set_option maxRecDepth 20000 in
theorem gX10_redo_X4_makeAgain : GoodIn wsX10_redo (wsV RX10 307 RX4 yX4_makeAgain wsX4_makeAgain) := goodIn_app (goodIn_of _ (by decide +kernel)) ggX10_redo_X4_makeAgain
set_option maxRecDepth 20000 in
theorem ggX10_redo_X10_denied : GoodIn wsX10_redo wsX10_denied := goodIn_r _ [39, 35, 40, 41, 42, 43, 44, 45, 46, 47, 48, 49, 50, 51, 52, 53] (by decide +kernel) (by decide +kernel)
set_option maxRecDepth 20000 in
theorem gX10_redo_X10_denied : GoodIn wsX10_redo (wsV RX10 197 RX10 yX10_denied wsX10_denied) := goodIn_app (goodIn_of _ (by decide +kernel)) ggX10_redo_X10_denied
set_option maxRecDepth 20000 in
theorem ggX10_mark_X10_noBook : GoodIn wsX10_mark wsX10_noBook := goodIn_r _ [7, 8, 9, 40, 41, 42, 43, 44, 45, 46, 47, 48, 49, 50, 51, 52, 53, 61, 62, 63, 64, 65, 66, 67, 68] (by decide +kernel) (by decide +kernel)
set_option maxRecDepth 20000 in
theorem gX10_mark_X10_noBook : GoodIn wsX10_mark (wsV RX10 131 RX10 yX10_noBook wsX10_noBook) := goodIn_app (goodIn_of _ (by decide +kernel)) ggX10_mark_X10_noBook
set_option maxRecDepth 20000 in
theorem ggX10_mark_X10_refused : GoodIn wsX10_mark wsX10_refused := goodIn_r _ [13, 14, 40, 41, 42, 43, 44, 45, 46, 47, 48, 49, 50, 51, 52, 53] (by decide +kernel) (by decide +kernel)
set_option maxRecDepth 20000 in
theorem gX10_mark_X10_refused : GoodIn wsX10_mark (wsV RX10 90 RX10 yX10_refused wsX10_refused) := goodIn_app (goodIn_of _ (by decide +kernel)) ggX10_mark_X10_refused
set_option maxRecDepth 20000 in
theorem ggX10_back_X4_goBack : GoodIn wsX10_back wsX4_goBack := goodIn_r _ [6, 7, 8, 9, 10, 11, 12, 13, 14, 15, 16, 17, 18, 19, 20, 21, 22, 23, 24, 25, 26, 27, 28, 29, 30, 55, 56, 57, 58, 59, 60, 61, 62, 63, 64, 65, 66, 67, 68, 69] (by decide +kernel) (by decide +kernel)
set_option maxRecDepth 20000 in
theorem gX10_back_X4_goBack : GoodIn wsX10_back (wsV RX10 316 RX4 yX4_goBack wsX4_goBack) := goodIn_app (goodIn_of _ (by decide +kernel)) ggX10_back_X4_goBack
set_option maxRecDepth 20000 in
theorem ggX10_back_X10_denied : GoodIn wsX10_back wsX10_denied := goodIn_r _ [40, 36, 41, 42, 43, 44, 45, 46, 47, 48, 49, 50, 51, 52, 53, 54] (by decide +kernel) (by decide +kernel)
set_option maxRecDepth 20000 in
theorem gX10_back_X10_denied : GoodIn wsX10_back (wsV RX10 197 RX10 yX10_denied wsX10_denied) := goodIn_app (goodIn_of _ (by decide +kernel)) ggX10_back_X10_denied
set_option maxRecDepth 20000 in
theorem ggX10_act_X10_refused : GoodIn wsX10_act wsX10_refused := goodIn_r _ [8, 9, 14, 15, 16, 17, 18, 19, 20, 21, 22, 23, 24, 25, 26, 27] (by decide +kernel) (by decide +kernel)
set_option maxRecDepth 20000 in
theorem gX10_act_X10_refused : GoodIn wsX10_act (wsV RX10 90 RX10 yX10_refused wsX10_refused) := goodIn_app (goodIn_of _ (by decide +kernel)) ggX10_act_X10_refused
set_option maxRecDepth 20000 in
theorem ggX10_times_X8_hasOutcome : GoodIn wsX10_times wsX8_hasOutcome := goodIn_r _ [7, 8, 9, 10, 6, 11, 12, 13, 14, 15, 16, 17, 42, 43, 44, 45, 46, 47, 48, 49] (by decide +kernel) (by decide +kernel)
set_option maxRecDepth 20000 in
theorem gX10_times_X8_hasOutcome : GoodIn wsX10_times (wsV RX10 156 RX8 yX8_hasOutcome wsX8_hasOutcome) := goodIn_app (goodIn_of _ (by decide +kernel)) ggX10_times_X8_hasOutcome
set_option maxRecDepth 20000 in
theorem ggX10_times_X10_refused : GoodIn wsX10_times wsX10_refused := goodIn_r _ [22, 23, 28, 29, 30, 31, 32, 33, 34, 35, 36, 37, 38, 39, 40, 41] (by decide +kernel) (by decide +kernel)
set_option maxRecDepth 20000 in
theorem gX10_times_X10_refused : GoodIn wsX10_times (wsV RX10 90 RX10 yX10_refused wsX10_refused) := goodIn_app (goodIn_of _ (by decide +kernel)) ggX10_times_X10_refused
set_option maxRecDepth 20000 in
theorem ggX10_look_X8_hasSet : GoodIn wsX10_look wsX8_hasSet := goodIn_r _ [8, 9, 34, 35, 36, 37, 38, 39, 40, 41] (by decide +kernel) (by decide +kernel)
set_option maxRecDepth 20000 in
theorem gX10_look_X8_hasSet : GoodIn wsX10_look (wsV RX10 282 RX8 yX8_hasSet wsX8_hasSet) := goodIn_app (goodIn_of _ (by decide +kernel)) ggX10_look_X8_hasSet
set_option maxRecDepth 20000 in
theorem ggX10_look_X10_refused : GoodIn wsX10_look wsX10_refused := goodIn_r _ [14, 15, 20, 21, 22, 23, 24, 25, 26, 27, 28, 29, 30, 31, 32, 33] (by decide +kernel) (by decide +kernel)
set_option maxRecDepth 20000 in
theorem gX10_look_X10_refused : GoodIn wsX10_look (wsV RX10 90 RX10 yX10_refused wsX10_refused) := goodIn_app (goodIn_of _ (by decide +kernel)) ggX10_look_X10_refused
set_option maxRecDepth 20000 in
theorem ggX10_coins_X8_hasOutcome : GoodIn wsX10_coins wsX8_hasOutcome := goodIn_r _ [7, 8, 9, 10, 6, 11, 12, 13, 14, 15, 16, 17, 42, 43, 44, 45, 46, 47, 48, 49] (by decide +kernel) (by decide +kernel)
set_option maxRecDepth 20000 in
theorem gX10_coins_X8_hasOutcome : GoodIn wsX10_coins (wsV RX10 156 RX8 yX8_hasOutcome wsX8_hasOutcome) := goodIn_app (goodIn_of _ (by decide +kernel)) ggX10_coins_X8_hasOutcome
set_option maxRecDepth 20000 in
theorem ggX10_coins_X10_refused : GoodIn wsX10_coins wsX10_refused := goodIn_r _ [22, 23, 28, 29, 30, 31, 32, 33, 34, 35, 36, 37, 38, 39, 40, 41] (by decide +kernel) (by decide +kernel)
set_option maxRecDepth 20000 in
theorem gX10_coins_X10_refused : GoodIn wsX10_coins (wsV RX10 90 RX10 yX10_refused wsX10_refused) := goodIn_app (goodIn_of _ (by decide +kernel)) ggX10_coins_X10_refused
set_option maxRecDepth 20000 in
theorem ggX10_led_X8_possible : GoodIn wsX10_led wsX8_possible := goodIn_r _ [8, 9, 10, 55, 56, 57, 58, 59, 60, 61, 62] (by decide +kernel) (by decide +kernel)
set_option maxRecDepth 20000 in
theorem gX10_led_X8_possible : GoodIn wsX10_led (wsV RX10 164 RX8 yX8_possible wsX8_possible) := goodIn_app (goodIn_of _ (by decide +kernel)) ggX10_led_X8_possible
set_option maxRecDepth 20000 in
theorem ggX10_led_X8_extending : GoodIn wsX10_led wsX8_extending := goodIn_r _ [14, 9, 15, 16, 17, 7, 18, 19, 20, 21, 22, 23, 10, 24, 25, 26, 27, 28, 29, 55, 56, 57, 58, 59, 60, 61, 62] (by decide +kernel) (by decide +kernel)
set_option maxRecDepth 20000 in
theorem gX10_led_X8_extending : GoodIn wsX10_led (wsV RX10 160 RX8 yX8_extending wsX8_extending) := goodIn_app (goodIn_of _ (by decide +kernel)) ggX10_led_X8_extending
set_option maxRecDepth 20000 in
theorem ggX10_led_J6_bitCount_0f7a4 : GoodIn wsX10_led wsJ6_bitCount_0f7a4 := goodIn_r _ [33, 34, 35, 36] (by decide +kernel) (by decide +kernel)
set_option maxRecDepth 20000 in
theorem gX10_led_J6_bitCount_0f7a4 : GoodIn wsX10_led (va_wsS RX10 332 yJ6_bitCount_0f7a4 wsJ6_bitCount_0f7a4) := goodIn_app (goodIn_of _ (by decide +kernel)) ggX10_led_J6_bitCount_0f7a4
set_option maxRecDepth 20000 in
theorem ggX11_next_X11_see : GoodIn wsX11_next wsX11_see := goodIn_r _ [11, 12, 13, 20, 21, 22, 23, 24, 25, 26, 27, 28, 29, 30, 31, 32, 33, 34, 35, 36, 37, 38, 39, 40, 41, 42, 43, 44, 45, 46, 47, 48, 49, 50, 51, 52, 53, 54, 55, 56, 57, 58, 59] (by decide +kernel) (by decide +kernel)
set_option maxRecDepth 20000 in
theorem gX11_next_X11_see : GoodIn wsX11_next (wsV RX11 84 RX11 yX11_see wsX11_see) := goodIn_app (goodIn_of _ (by decide +kernel)) ggX11_next_X11_see
set_option maxRecDepth 20000 in
theorem ggX11_book_X11_good : GoodIn wsX11_book wsX11_good := goodIn_r _ [18, 19, 20, 180, 181, 182, 183, 184, 185, 186, 187, 188, 189, 190, 191, 192, 193, 194, 195, 196, 197, 198, 199, 200, 201, 202, 203, 204, 205, 206, 207, 208, 209, 210, 211, 212, 213, 214, 215, 216, 217, 218, 219] (by decide +kernel) (by decide +kernel)
set_option maxRecDepth 20000 in
theorem gX11_book_X11_good : GoodIn wsX11_book (wsV RX11 174 RX11 yX11_good wsX11_good) := goodIn_app (goodIn_of _ (by decide +kernel)) ggX11_book_X11_good
set_option maxRecDepth 20000 in
theorem ggX11_book_X11_within : GoodIn wsX11_book wsX11_within := goodIn_r _ [23] (by decide +kernel) (by decide +kernel)
set_option maxRecDepth 20000 in
theorem gX11_book_X11_within : GoodIn wsX11_book (va_wsS RX11 170 yX11_within wsX11_within) := goodIn_app (goodIn_of _ (by decide +kernel)) ggX11_book_X11_within
set_option maxRecDepth 20000 in
theorem ggX11_book_X11_no : GoodIn wsX11_book wsX11_no := goodIn_r _ [27, 20, 180, 181, 182, 183, 184, 185, 186, 187, 188, 189, 190, 191, 192, 193, 194, 195, 196, 197, 198, 199, 200, 201, 202, 203, 204, 205, 206, 207, 208, 209, 210, 211, 212, 213, 214, 215, 216, 217, 218, 219] (by decide +kernel) (by decide +kernel)
set_option maxRecDepth 20000 in
theorem gX11_book_X11_no : GoodIn wsX11_book (wsV RX11 177 RX11 yX11_no wsX11_no) := goodIn_app (goodIn_of _ (by decide +kernel)) ggX11_book_X11_no
set_option maxRecDepth 20000 in
theorem ggX11_book_X11_next : GoodIn wsX11_book wsX11_next := goodIn_r _ [31, 6, 8, 32, 33, 7, 34, 35, 36, 37, 17, 38, 5, 39, 40, 41, 42, 43, 44, 45, 180, 181, 182, 183, 184, 185, 186, 187, 188, 189, 190, 191, 192, 193, 194, 195, 196, 197, 198, 199, 200, 201, 202, 203, 204, 205, 206, 207, 208, 209, 210, 211, 212, 213, 214, 215, 216, 217, 218, 219] (by decide +kernel) (by decide +kernel)
set_option maxRecDepth 20000 in
theorem gX11_book_X11_next : GoodIn wsX11_book (wsV RX11 128 RX11 yX11_next wsX11_next) := goodIn_app (goodIn_of _ (by decide +kernel)) ggX11_book_X11_next
set_option maxRecDepth 100000 in
theorem ggX11_book_X11_readLine : GoodIn wsX11_book wsX11_readLine := goodIn_r _ [49, 4, 8, 50, 51, 52, 17, 53, 3, 54, 55, 56, 57, 7, 32, 34, 58, 59, 60, 61, 62, 63, 64, 65, 66, 67, 68, 69, 70, 71, 72, 73, 74, 75, 76, 77, 78, 79, 80, 81, 82, 83, 84, 85, 86, 87, 88, 89, 90, 91, 92, 93, 94, 95, 96, 97, 98, 99, 100, 101, 102, 103, 104, 105, 106, 107, 108, 109, 110, 2, 111, 28, 29, 30, 31, 6, 33, 35, 36, 37, 38, 5, 39, 40, 41, 42, 43, 44, 45, 112, 113, 114, 115, 116, 117, 118, 119, 120, 121, 122, 123, 124, 125, 126, 127, 21, 22, 23, 128, 129, 130, 131, 132, 133, 134, 135, 136, 137, 138, 139, 140, 141, 142, 143, 144, 145, 146, 147, 148, 149, 150, 151, 152, 153, 154, 155, 156, 157, 158, 159, 160, 161, 162, 163, 164, 165, 166, 167, 168, 169, 170, 171, 172, 173, 174, 180, 181, 182, 183, 184, 185, 186, 187, 188, 189, 190, 191, 192, 193, 194, 195, 196, 197, 198, 199, 200, 201, 202, 203, 204, 205, 206, 207, 208, 209, 210, 211, 212, 213, 214, 215, 216, 217, 218, 219] rfl (by decide +kernel)
set_option maxRecDepth 20000 in
theorem gX11_book_X11_readLine : GoodIn wsX11_book (wsV RX11 180 RX11 yX11_readLine wsX11_readLine) := goodIn_app (goodIn_of _ (by decide +kernel)) ggX11_book_X11_readLine
set_option maxRecDepth 100000 in
theorem ggX11_begins_X11_isWord : GoodIn wsX11_begins wsX11_isWord := goodIn_r _ [7, 2, 8, 9, 10, 11, 12, 13, 14, 15, 16, 17, 18, 19, 20, 21, 22, 23, 24, 25, 26, 27, 28, 29, 30, 31, 32, 33, 34, 35, 36, 37, 38, 39, 40, 41, 42, 43, 44, 45, 46, 47, 48, 49, 50, 51, 52, 53, 54, 55, 56, 57, 58, 59, 84, 85, 86, 87, 88, 89, 90, 91, 92, 93, 94, 95, 96, 97, 98, 99, 100, 101, 102, 103, 104, 105, 106, 107, 108, 109, 110, 111, 112, 113, 114, 115, 116, 117, 118, 119, 120, 121, 122, 123] rfl (by decide +kernel)
set_option maxRecDepth 20000 in
theorem gX11_begins_X11_isWord : GoodIn wsX11_begins (wsV RX11 124 RX11 yX11_isWord wsX11_isWord) := goodIn_app (goodIn_of _ (by decide +kernel)) ggX11_begins_X11_isWord
set_option maxRecDepth 100000 in
theorem ggX11_readLine_X11_begins : GoodIn wsX11_readLine wsX11_begins := goodIn_r _ [7, 2, 8, 9, 10, 11, 6, 12, 13, 14, 15, 16, 17, 18, 19, 20, 21, 22, 23, 24, 25, 26, 27, 28, 29, 30, 31, 32, 33, 34, 35, 36, 37, 38, 39, 40, 41, 42, 43, 44, 45, 46, 47, 48, 49, 50, 51, 52, 53, 54, 55, 56, 57, 58, 59, 60, 61, 62, 63, 64, 65, 66, 67, 68, 69, 70, 71, 72, 73, 74, 75, 76, 77, 78, 79, 80, 81, 82, 83, 84, 85, 86, 87, 88, 155, 156, 157, 158, 159, 160, 161, 162, 163, 164, 165, 166, 167, 168, 169, 170, 171, 172, 173, 174, 175, 176, 177, 178, 179, 180, 181, 182, 183, 184, 185, 186, 187, 188, 189, 190, 191, 192, 193, 194] rfl (by decide +kernel)
set_option maxRecDepth 20000 in
theorem gX11_readLine_X11_begins : GoodIn wsX11_readLine (wsV RX11 198 RX11 yX11_begins wsX11_begins) := goodIn_app (goodIn_of _ (by decide +kernel)) ggX11_readLine_X11_begins
set_option maxRecDepth 100000 in
theorem ggX11_readLine_X11_isWord : GoodIn wsX11_readLine wsX11_isWord := goodIn_r _ [12, 8, 13, 14, 15, 16, 17, 18, 19, 20, 21, 22, 23, 24, 25, 26, 27, 28, 29, 30, 31, 32, 33, 34, 35, 36, 37, 38, 39, 40, 41, 42, 43, 44, 45, 46, 47, 48, 49, 50, 51, 52, 53, 54, 55, 56, 57, 58, 59, 60, 61, 62, 63, 64, 155, 156, 157, 158, 159, 160, 161, 162, 163, 164, 165, 166, 167, 168, 169, 170, 171, 172, 173, 174, 175, 176, 177, 178, 179, 180, 181, 182, 183, 184, 185, 186, 187, 188, 189, 190, 191, 192, 193, 194] rfl (by decide +kernel)
set_option maxRecDepth 20000 in
theorem gX11_readLine_X11_isWord : GoodIn wsX11_readLine (wsV RX11 124 RX11 yX11_isWord wsX11_isWord) := goodIn_app (goodIn_of _ (by decide +kernel)) ggX11_readLine_X11_isWord
set_option maxRecDepth 20000 in
theorem ggX11_readLine_X11_wrong : GoodIn wsX11_readLine wsX11_wrong := goodIn_r _ [68, 8, 69, 70, 155, 156, 157, 158, 159, 160, 161, 162, 163, 164, 165, 166, 167, 168, 169, 170, 171, 172, 173, 174, 175, 176, 177, 178, 179, 180, 181, 182, 183, 184, 185, 186, 187, 188, 189, 190, 191, 192, 193, 194] (by decide +kernel) (by decide +kernel)
set_option maxRecDepth 20000 in
theorem gX11_readLine_X11_wrong : GoodIn wsX11_readLine (wsV RX11 134 RX11 yX11_wrong wsX11_wrong) := goodIn_app (goodIn_of _ (by decide +kernel)) ggX11_readLine_X11_wrong
set_option maxRecDepth 20000 in
theorem ggX11_isOutcome_X11_isSet : GoodIn wsX11_isOutcome wsX11_isSet := goodIn_r _ [6, 7, 1, 8, 9, 5, 10, 14, 15, 16, 17, 18, 19, 20, 21, 22, 23, 24, 25, 26, 27, 28, 29, 30, 31, 32, 33, 34, 35, 36, 37, 38, 39, 40, 41, 42, 43, 44, 45, 46, 47, 48, 49, 50, 51, 52, 53] (by decide +kernel) (by decide +kernel)
set_option maxRecDepth 20000 in
theorem gX11_isOutcome_X11_isSet : GoodIn wsX11_isOutcome (wsV RX11 244 RX11 yX11_isSet wsX11_isSet) := goodIn_app (goodIn_of _ (by decide +kernel)) ggX11_isOutcome_X11_isSet
set_option maxRecDepth 20000 in
theorem ggX11_share_X11_good : GoodIn wsX11_share wsX11_good := goodIn_r _ [11, 12, 13, 60, 61, 62, 63, 64, 65, 66, 67, 68, 69, 70, 71, 72, 73, 74, 75, 76, 77, 78, 79, 80, 81, 82, 83, 84, 85, 86, 87, 88, 89, 90, 91, 92, 93, 94, 95, 96, 97, 98, 99] (by decide +kernel) (by decide +kernel)
set_option maxRecDepth 20000 in
theorem gX11_share_X11_good : GoodIn wsX11_share (wsV RX11 174 RX11 yX11_good wsX11_good) := goodIn_app (goodIn_of _ (by decide +kernel)) ggX11_share_X11_good
