set_option maxRecDepth 20000 in
theorem ggX6_init_X1_init : GoodIn wsX6_init wsX1_init := goodIn_r _ [13, 14, 2, 3, 15, 16, 17, 18, 19, 20, 21, 22, 23, 24, 25, 26, 27, 28, 29, 30, 31, 32, 33, 34, 35, 36, 37, 38, 39, 40] (by decide +kernel) (by decide +kernel)
set_option maxRecDepth 20000 in
theorem gX6_init_X1_init_n11 : GoodIn wsX6_init (wsX1_init) := ggX6_init_X1_init
set_option maxRecDepth 20000 in
theorem ggX6_read_X1_clear : GoodIn wsX6_read wsX1_clear := goodIn_r _ [15, 16, 17, 18, 19, 20, 21, 22, 23, 194, 195, 196, 197, 198, 199, 200, 201, 202, 203, 204, 205, 206, 207, 208, 209] (by decide +kernel) (by decide +kernel)
set_option maxRecDepth 20000 in
theorem gX6_read_X1_clear : GoodIn wsX6_read (wsV RX6 29 RX1 yX1_clear wsX1_clear) := goodIn_app (goodIn_of _ (by decide +kernel)) ggX6_read_X1_clear
set_option maxRecDepth 20000 in
theorem ggX6_read_X6_next : GoodIn wsX6_read wsX6_next := goodIn_r _ [28, 10, 9, 4, 29, 30, 31, 32, 33, 34, 27, 35, 36, 37, 38, 39, 40, 41, 42, 182, 183, 184, 185, 186, 187, 188, 189, 190, 191, 192, 193] (by decide +kernel) (by decide +kernel)
set_option maxRecDepth 20000 in
theorem gX6_read_X6_next : GoodIn wsX6_read (wsV RX6 51 RX6 yX6_next wsX6_next) := goodIn_app (goodIn_of _ (by decide +kernel)) ggX6_read_X6_next
set_option maxRecDepth 20000 in
theorem ggX6_read_X6_readLine : GoodIn wsX6_read wsX6_readLine := goodIn_r _ [46, 47, 48, 49, 50, 51, 27, 52, 32, 10, 29, 4, 53, 54, 55, 56, 57, 58, 59, 60, 61, 62, 63, 64, 65, 66, 67, 68, 69, 70, 71, 72, 73, 74, 75, 76, 77, 78, 79, 80, 81, 82, 83, 84, 85, 86, 87, 88, 89, 90, 91, 92, 93, 94, 95, 96, 97, 98, 99, 100, 101, 102, 103, 104, 105, 1, 106, 31, 107, 108, 109, 110, 2, 3, 24, 25, 26, 28, 9, 30, 33, 34, 35, 36, 37, 38, 39, 40, 41, 42, 111, 112, 113, 114, 115, 116, 117, 118, 119, 120, 121, 122, 123, 124, 125, 126, 127, 128, 129, 130, 131, 132, 133, 134, 135, 136, 137, 138, 139, 140, 141, 142, 143, 144, 145, 146, 147, 148, 149, 150, 151, 152, 153, 154, 155, 156, 157, 158, 159, 160, 161, 162, 163, 164, 165, 166, 167, 168, 169, 170, 171, 172, 173, 174, 175, 176, 177, 182, 183, 184, 185, 186, 187, 188, 189, 190, 191, 192, 193, 194, 195, 196, 197, 198, 199, 200, 201, 202, 203, 204, 205, 206, 207, 208, 209] (by decide +kernel) (by decide +kernel)
set_option maxRecDepth 20000 in
theorem gX6_read_X6_readLine : GoodIn wsX6_read (wsV RX6 54 RX6 yX6_readLine wsX6_readLine) := goodIn_app (goodIn_of _ (by decide +kernel)) ggX6_read_X6_readLine
set_option maxRecDepth 20000 in
theorem ggX6_readLine_X6_says : GoodIn wsX6_readLine wsX6_says := goodIn_r _ [7, 8, 9, 10, 11, 12, 13, 14, 15, 16, 17, 18, 19, 20, 21, 22, 23, 24, 25, 26, 27, 28, 29, 30, 31, 32, 33, 34, 35, 36, 37, 38, 39, 40, 41, 42, 43, 44, 45, 46, 47, 48, 49, 50, 51, 52, 53, 54, 55, 56, 57, 58, 59, 60, 157, 158, 159, 160, 161, 162, 163, 164, 165, 166, 167, 168] (by decide +kernel) (by decide +kernel)
set_option maxRecDepth 20000 in
theorem gX6_readLine_X6_says : GoodIn wsX6_readLine (wsV RX6 78 RX6 yX6_says wsX6_says) := goodIn_app (goodIn_of _ (by decide +kernel)) ggX6_readLine_X6_says
set_option maxRecDepth 20000 in
theorem ggX6_readLine_X6_refuse : GoodIn wsX6_readLine wsX6_refuse := goodIn_r _ [71, 72, 10, 73, 157, 158, 159, 160, 161, 162, 163, 164, 165, 166, 167, 168] (by decide +kernel) (by decide +kernel)
set_option maxRecDepth 20000 in
theorem gX6_readLine_X6_refuse : GoodIn wsX6_readLine (wsV RX6 70 RX6 yX6_refuse wsX6_refuse) := goodIn_app (goodIn_of _ (by decide +kernel)) ggX6_readLine_X6_refuse
set_option maxRecDepth 20000 in
theorem ggX6_next_X6_takeSign : GoodIn wsX6_next wsX6_takeSign := goodIn_r _ [18, 7, 1, 2, 3, 19, 20, 21, 22, 23, 24, 25, 26, 27, 28, 29, 30] (by decide +kernel) (by decide +kernel)
set_option maxRecDepth 20000 in
theorem gX6_next_X6_takeSign : GoodIn wsX6_next (wsV RX6 214 RX6 yX6_takeSign wsX6_takeSign) := goodIn_app (goodIn_of _ (by decide +kernel)) ggX6_next_X6_takeSign
set_option maxRecDepth 20000 in
theorem ggX8_hasPair_X8_hasSet : GoodIn wsX8_hasPair wsX8_hasSet := goodIn_r _ [6, 7, 8, 9, 10, 11, 12, 13, 14, 15] (by decide +kernel) (by decide +kernel)
set_option maxRecDepth 20000 in
theorem gX8_hasPair_X8_hasSet : GoodIn wsX8_hasPair (wsV RX8 56 RX8 yX8_hasSet wsX8_hasSet) := goodIn_app (goodIn_of _ (by decide +kernel)) ggX8_hasPair_X8_hasSet
set_option maxRecDepth 20000 in
theorem ggX8_hasOutcome_X8_hasSet : GoodIn wsX8_hasOutcome wsX8_hasSet := goodIn_r _ [5, 6, 12, 13, 14, 15, 16, 17, 18, 19] (by decide +kernel) (by decide +kernel)
set_option maxRecDepth 20000 in
theorem gX8_hasOutcome_X8_hasSet : GoodIn wsX8_hasOutcome (wsV RX8 56 RX8 yX8_hasSet wsX8_hasSet) := goodIn_app (goodIn_of _ (by decide +kernel)) ggX8_hasOutcome_X8_hasSet
set_option maxRecDepth 20000 in
theorem ggX8_extending_X8_hiddenAnswers : GoodIn wsX8_extending wsX8_hiddenAnswers := goodIn_r _ [6, 7, 19, 20, 21, 22, 23, 24, 25, 26] (by decide +kernel) (by decide +kernel)
set_option maxRecDepth 20000 in
theorem gX8_extending_X8_hiddenAnswers : GoodIn wsX8_extending (wsV RX8 68 RX8 yX8_hiddenAnswers wsX8_hiddenAnswers) := goodIn_app (goodIn_of _ (by decide +kernel)) ggX8_extending_X8_hiddenAnswers
set_option maxRecDepth 20000 in
theorem ggX8_extending_X8_missed : GoodIn wsX8_extending wsX8_missed := goodIn_r _ [11, 1, 12, 13, 14, 15, 5, 16, 17, 18, 19, 20, 21, 22, 23, 24, 25, 26] (by decide +kernel) (by decide +kernel)
set_option maxRecDepth 20000 in
theorem gX8_extending_X8_missed : GoodIn wsX8_extending (wsV RX8 72 RX8 yX8_missed wsX8_missed) := goodIn_app (goodIn_of _ (by decide +kernel)) ggX8_extending_X8_missed
set_option maxRecDepth 20000 in
theorem ggX10_init_X6_init : GoodIn wsX10_init wsX6_init := goodIn_r _ [44, 45, 2, 3, 46, 47, 48, 49, 50, 51, 52, 53, 54, 55, 56, 4, 57, 58, 59, 60, 61, 62, 63, 64, 65, 205, 206, 207, 208, 209, 210, 211, 212, 213, 214, 215, 216, 217, 218, 219, 220, 138, 139, 140, 141, 142, 143, 144, 145, 146, 147, 148, 149] (by decide +kernel) (by decide +kernel)
set_option maxRecDepth 20000 in
theorem gX10_init_X6_init : GoodIn wsX10_init (wsX6_init) := ggX10_init_X6_init
set_option maxRecDepth 20000 in
theorem ggX10_init_X8_init : GoodIn wsX10_init wsX8_init := goodIn_r _ [67, 68, 2, 3, 4, 69, 70, 71, 72, 150, 151, 152, 153, 154, 155, 156, 157] (by decide +kernel) (by decide +kernel)
set_option maxRecDepth 20000 in
theorem gX10_init_X8_init_n24 : GoodIn wsX10_init (wsX8_init) := ggX10_init_X8_init
set_option maxRecDepth 20000 in
theorem ggX10_init_X7_init : GoodIn wsX10_init wsX7_init := goodIn_r _ [75, 76, 2, 3, 77, 158] (by decide +kernel) (by decide +kernel)
set_option maxRecDepth 20000 in
theorem gX10_init_X7_init : GoodIn wsX10_init (wsX7_init) := ggX10_init_X7_init
set_option maxRecDepth 20000 in
theorem ggX10_init_X2_init : GoodIn wsX10_init wsX2_init := goodIn_r _ [79, 80, 2, 3, 81, 159, 160] (by decide +kernel) (by decide +kernel)
set_option maxRecDepth 20000 in
theorem gX10_init_X2_init_n40 : GoodIn wsX10_init (wsX2_init) := ggX10_init_X2_init
set_option maxRecDepth 20000 in
theorem ggX10_init_X0_init : GoodIn wsX10_init wsX0_init := goodIn_r _ [84, 85, 2, 3, 86, 50, 87, 4, 88, 89, 90, 91, 92, 93, 94, 161, 162, 163, 164, 165, 166, 167, 168, 169, 150, 151, 152, 153, 154, 155, 156, 157] (by decide +kernel) (by decide +kernel)
set_option maxRecDepth 20000 in
theorem gX10_init_X0_init : GoodIn wsX10_init (wsX0_init) := ggX10_init_X0_init
set_option maxRecDepth 20000 in
theorem ggX10_init_X5_init : GoodIn wsX10_init wsX5_init := goodIn_r _ [96, 97, 2, 3, 98, 99, 100, 170, 171, 172, 173, 174, 175] (by decide +kernel) (by decide +kernel)
set_option maxRecDepth 20000 in
theorem gX10_init_X5_init_n56 : GoodIn wsX10_init (wsX5_init) := ggX10_init_X5_init
set_option maxRecDepth 20000 in
theorem ggX10_init_X3_init : GoodIn wsX10_init wsX3_init := goodIn_r _ [102, 103, 2, 3, 4, 104, 105, 176, 177, 178, 179, 180, 181, 182, 183, 184, 185, 186, 187] (by decide +kernel) (by decide +kernel)
set_option maxRecDepth 20000 in
theorem gX10_init_X3_init_n63 : GoodIn wsX10_init (wsX3_init) := ggX10_init_X3_init
set_option maxRecDepth 20000 in
theorem ggX10_init_X9_init : GoodIn wsX10_init wsX9_init := goodIn_r _ [107, 108, 2, 3, 4, 109, 110, 99, 111, 112, 113, 114, 188, 189, 190, 191, 192, 193, 194, 195, 196, 197] (by decide +kernel) (by decide +kernel)
set_option maxRecDepth 20000 in
theorem gX10_init_X9_init_n70 : GoodIn wsX10_init (wsX9_init) := ggX10_init_X9_init
set_option maxRecDepth 20000 in
theorem ggX10_init_X4_init : GoodIn wsX10_init wsX4_init := goodIn_r _ [117, 118, 2, 3, 119, 4, 120, 121, 122, 123, 198, 199, 200, 201, 202, 203, 204] (by decide +kernel) (by decide +kernel)
set_option maxRecDepth 20000 in
theorem gX10_init_X4_init : GoodIn wsX10_init (wsX4_init) := ggX10_init_X4_init
set_option maxRecDepth 20000 in
theorem ggX10_feed_X10_put : GoodIn wsX10_feed wsX10_put := goodIn_r _ [6, 7, 1, 8, 9, 10, 11, 12, 13, 14, 15, 16, 17, 18, 19, 20, 21] (by decide +kernel) (by decide +kernel)
set_option maxRecDepth 20000 in
theorem gX10_feed_X10_put : GoodIn wsX10_feed (wsV RX10 86 RX10 yX10_put wsX10_put) := goodIn_app (goodIn_of _ (by decide +kernel)) ggX10_feed_X10_put
set_option maxRecDepth 20000 in
theorem ggX10_book_X10_refused : GoodIn wsX10_book wsX10_refused := goodIn_r _ [18, 19, 312, 313, 314, 315, 316, 317, 318, 319, 320, 321, 322, 323, 324, 325] (by decide +kernel) (by decide +kernel)
set_option maxRecDepth 20000 in
theorem gX10_book_X10_refused : GoodIn wsX10_book (wsV RX10 90 RX10 yX10_refused wsX10_refused) := goodIn_app (goodIn_of _ (by decide +kernel)) ggX10_book_X10_refused
set_option maxRecDepth 20000 in
theorem ggX10_book_X6_read : GoodIn wsX10_book wsX6_read := goodIn_r _ [24, 25, 26, 27, 28, 29, 30, 31, 32, 33, 34, 35, 36, 37, 38, 39, 40, 41, 42, 43, 44, 45, 46, 47, 48, 49, 50, 23, 51, 52, 53, 54, 55, 56, 57, 58, 59, 60, 61, 62, 63, 64, 65, 66, 67, 68, 69, 70, 71, 72, 73, 74, 75, 76, 77, 78, 79, 80, 81, 82, 83, 84, 85, 86, 87, 88, 89, 90, 91, 92, 93, 94, 95, 96, 97, 98, 99, 100, 101, 102, 103, 104, 105, 106, 107, 108, 109, 110, 111, 112, 113, 114, 115, 116, 117, 118, 119, 120, 121, 122, 123, 124, 125, 126, 127, 128, 129, 130, 131, 132, 133, 134, 135, 136, 137, 138, 139, 140, 141, 142, 143, 144, 145, 146, 147, 148, 149, 150, 151, 152, 153, 154, 155, 156, 157, 158, 159, 160, 161, 162, 163, 164, 165, 166, 167, 168, 169, 170, 171, 172, 173, 174, 175, 176, 177, 178, 179, 180, 181, 182, 183, 184, 185, 186, 187, 188, 189, 190, 191, 192, 193, 194, 195, 196, 197, 198, 199, 200, 201, 202, 203, 204, 326, 327, 328, 329, 330, 331, 332, 333, 334, 335, 336, 337, 346, 347, 348, 349, 350, 351, 352, 353, 354, 355, 356, 357, 358, 359, 360, 361] (by decide +kernel) (by decide +kernel)
set_option maxRecDepth 20000 in
theorem gX10_book_X6_read : GoodIn wsX10_book (wsV RX10 94 RX6 yX6_read wsX6_read) := goodIn_app (goodIn_of _ (by decide +kernel)) ggX10_book_X6_read
set_option maxRecDepth 20000 in
theorem ggX10_share_X10_noBook : GoodIn wsX10_share wsX10_noBook := goodIn_r _ [7, 8, 9, 108, 109, 110, 111, 112, 113, 114, 115, 116, 117, 118, 119, 120, 121, 122, 123, 124, 125, 126, 127, 128, 129] (by decide +kernel) (by decide +kernel)
set_option maxRecDepth 20000 in
theorem gX10_share_X10_noBook : GoodIn wsX10_share (wsV RX10 131 RX10 yX10_noBook wsX10_noBook) := goodIn_app (goodIn_of _ (by decide +kernel)) ggX10_share_X10_noBook
set_option maxRecDepth 20000 in
theorem ggX10_share_X10_refused : GoodIn wsX10_share wsX10_refused := goodIn_r _ [13, 14, 108, 109, 110, 111, 112, 113, 114, 115, 116, 117, 118, 119, 120, 121] (by decide +kernel) (by decide +kernel)
set_option maxRecDepth 20000 in
theorem gX10_share_X10_refused : GoodIn wsX10_share (wsV RX10 90 RX10 yX10_refused wsX10_refused) := goodIn_app (goodIn_of _ (by decide +kernel)) ggX10_share_X10_refused
set_option maxRecDepth 20000 in
theorem ggX10_together_X8_hasLook : GoodIn wsX10_together wsX8_hasLook := goodIn_r _ [8, 9, 135, 136, 137, 138, 139, 140, 141, 142] (by decide +kernel) (by decide +kernel)
set_option maxRecDepth 20000 in
theorem gX10_together_X8_hasLook : GoodIn wsX10_together (wsV RX10 142 RX8 yX8_hasLook wsX8_hasLook) := goodIn_app (goodIn_of _ (by decide +kernel)) ggX10_together_X8_hasLook
set_option maxRecDepth 20000 in
theorem ggX10_together_X10_refused : GoodIn wsX10_together wsX10_refused := goodIn_r _ [17, 18, 121, 122, 123, 124, 125, 126, 127, 128, 129, 130, 131, 132, 133, 134] (by decide +kernel) (by decide +kernel)
set_option maxRecDepth 20000 in
theorem gX10_together_X10_refused : GoodIn wsX10_together (wsV RX10 90 RX10 yX10_refused wsX10_refused) := goodIn_app (goodIn_of _ (by decide +kernel)) ggX10_together_X10_refused
set_option maxRecDepth 20000 in
theorem ggX10_extend_X8_hasOutcome : GoodIn wsX10_extend wsX8_hasOutcome := goodIn_r _ [6, 7, 8, 9, 5, 10, 11, 12, 13, 14, 15, 16, 60, 61, 62, 63, 64, 65, 66, 67] (by decide +kernel) (by decide +kernel)
set_option maxRecDepth 20000 in
theorem gX10_extend_X8_hasOutcome : GoodIn wsX10_extend (wsV RX10 156 RX8 yX8_hasOutcome wsX8_hasOutcome) := goodIn_app (goodIn_of _ (by decide +kernel)) ggX10_extend_X8_hasOutcome
set_option maxRecDepth 20000 in
theorem ggX10_extend_X10_refused : GoodIn wsX10_extend wsX10_refused := goodIn_r _ [21, 22, 46, 47, 48, 49, 50, 51, 52, 53, 54, 55, 56, 57, 58, 59] (by decide +kernel) (by decide +kernel)
set_option maxRecDepth 20000 in
theorem gX10_extend_X10_refused : GoodIn wsX10_extend (wsV RX10 90 RX10 yX10_refused wsX10_refused) := goodIn_app (goodIn_of _ (by decide +kernel)) ggX10_extend_X10_refused
set_option maxRecDepth 20000 in
theorem ggX10_level_X10_noBook : GoodIn wsX10_level wsX10_noBook := goodIn_r _ [7, 2, 8, 102, 103, 104, 105, 106, 107, 108, 109, 110, 111, 112, 113, 114, 115, 116, 117, 118, 119, 120, 121, 122, 123] (by decide +kernel) (by decide +kernel)
set_option maxRecDepth 20000 in
theorem gX10_level_X10_noBook : GoodIn wsX10_level (wsV RX10 131 RX10 yX10_noBook wsX10_noBook) := goodIn_app (goodIn_of _ (by decide +kernel)) ggX10_level_X10_noBook
