set_option maxRecDepth 20000 in
theorem ggX11_times_X11_good : GoodIn wsX11_times wsX11_good := goodIn_r _ [6, 7, 8, 28, 29, 30, 31, 32, 33, 34, 35, 36, 37, 38, 39, 40, 41, 42, 43, 44, 45, 46, 47, 48, 49, 50, 51, 52, 53, 54, 55, 56, 57, 58, 59, 60, 61, 62, 63, 64, 65, 66, 67] (by decide +kernel) (by decide +kernel)
set_option maxRecDepth 20000 in
theorem gX11_times_X11_good : GoodIn wsX11_times (wsV RX11 174 RX11 yX11_good wsX11_good) := goodIn_app (goodIn_of _ (by decide +kernel)) ggX11_times_X11_good
set_option maxRecDepth 20000 in
theorem ggX11_times_X11_isOutcome : GoodIn wsX11_times wsX11_isOutcome := goodIn_r _ [12, 1, 13, 14, 15, 5, 16, 17, 18, 19, 20, 21, 22, 23, 28, 29, 30, 31, 32, 33, 34, 35, 36, 37, 38, 39, 40, 41, 42, 43, 44, 45, 46, 47, 48, 49, 50, 51, 52, 53, 54, 55, 56, 57, 58, 59, 60, 61, 62, 63, 64, 65, 66, 67] (by decide +kernel) (by decide +kernel)
set_option maxRecDepth 20000 in
theorem gX11_times_X11_isOutcome : GoodIn wsX11_times (wsV RX11 305 RX11 yX11_isOutcome wsX11_isOutcome) := goodIn_app (goodIn_of _ (by decide +kernel)) ggX11_times_X11_isOutcome
set_option maxRecDepth 20000 in
theorem ggX11_times_X11_no : GoodIn wsX11_times wsX11_no := goodIn_r _ [27, 8, 28, 29, 30, 31, 32, 33, 34, 35, 36, 37, 38, 39, 40, 41, 42, 43, 44, 45, 46, 47, 48, 49, 50, 51, 52, 53, 54, 55, 56, 57, 58, 59, 60, 61, 62, 63, 64, 65, 66, 67] (by decide +kernel) (by decide +kernel)
set_option maxRecDepth 20000 in
theorem gX11_times_X11_no : GoodIn wsX11_times (wsV RX11 177 RX11 yX11_no wsX11_no) := goodIn_app (goodIn_of _ (by decide +kernel)) ggX11_times_X11_no
set_option maxRecDepth 20000 in
theorem ggX11_look_X11_good : GoodIn wsX11_look wsX11_good := goodIn_r _ [6, 7, 8, 21, 22, 23, 24, 25, 26, 27, 28, 29, 30, 31, 32, 33, 34, 35, 36, 37, 38, 39, 40, 41, 42, 43, 44, 45, 46, 47, 48, 49, 50, 51, 52, 53, 54, 55, 56, 57, 58, 59, 60] (by decide +kernel) (by decide +kernel)
set_option maxRecDepth 20000 in
theorem gX11_look_X11_good : GoodIn wsX11_look (wsV RX11 174 RX11 yX11_good wsX11_good) := goodIn_app (goodIn_of _ (by decide +kernel)) ggX11_look_X11_good
set_option maxRecDepth 20000 in
theorem ggX11_look_X11_isSet : GoodIn wsX11_look wsX11_isSet := goodIn_r _ [12, 13, 1, 14, 15, 5, 16, 21, 22, 23, 24, 25, 26, 27, 28, 29, 30, 31, 32, 33, 34, 35, 36, 37, 38, 39, 40, 41, 42, 43, 44, 45, 46, 47, 48, 49, 50, 51, 52, 53, 54, 55, 56, 57, 58, 59, 60] (by decide +kernel) (by decide +kernel)
set_option maxRecDepth 20000 in
theorem gX11_look_X11_isSet : GoodIn wsX11_look (wsV RX11 244 RX11 yX11_isSet wsX11_isSet) := goodIn_app (goodIn_of _ (by decide +kernel)) ggX11_look_X11_isSet
set_option maxRecDepth 20000 in
theorem ggX11_look_X11_no : GoodIn wsX11_look wsX11_no := goodIn_r _ [20, 8, 21, 22, 23, 24, 25, 26, 27, 28, 29, 30, 31, 32, 33, 34, 35, 36, 37, 38, 39, 40, 41, 42, 43, 44, 45, 46, 47, 48, 49, 50, 51, 52, 53, 54, 55, 56, 57, 58, 59, 60] (by decide +kernel) (by decide +kernel)
set_option maxRecDepth 20000 in
theorem gX11_look_X11_no : GoodIn wsX11_look (wsV RX11 177 RX11 yX11_no wsX11_no) := goodIn_app (goodIn_of _ (by decide +kernel)) ggX11_look_X11_no
set_option maxRecDepth 20000 in
theorem ggX11_coins_X11_good : GoodIn wsX11_coins wsX11_good := goodIn_r _ [6, 7, 8, 29, 30, 31, 32, 33, 34, 35, 36, 37, 38, 39, 40, 41, 42, 43, 44, 45, 46, 47, 48, 49, 50, 51, 52, 53, 54, 55, 56, 57, 58, 59, 60, 61, 62, 63, 64, 65, 66, 67, 68] (by decide +kernel) (by decide +kernel)
set_option maxRecDepth 20000 in
theorem gX11_coins_X11_good : GoodIn wsX11_coins (wsV RX11 174 RX11 yX11_good wsX11_good) := goodIn_app (goodIn_of _ (by decide +kernel)) ggX11_coins_X11_good
set_option maxRecDepth 20000 in
theorem ggX11_coins_X11_isOutcome : GoodIn wsX11_coins wsX11_isOutcome := goodIn_r _ [12, 13, 14, 15, 16, 5, 17, 18, 19, 20, 21, 22, 23, 24, 29, 30, 31, 32, 33, 34, 35, 36, 37, 38, 39, 40, 41, 42, 43, 44, 45, 46, 47, 48, 49, 50, 51, 52, 53, 54, 55, 56, 57, 58, 59, 60, 61, 62, 63, 64, 65, 66, 67, 68] (by decide +kernel) (by decide +kernel)
set_option maxRecDepth 20000 in
theorem gX11_coins_X11_isOutcome : GoodIn wsX11_coins (wsV RX11 305 RX11 yX11_isOutcome wsX11_isOutcome) := goodIn_app (goodIn_of _ (by decide +kernel)) ggX11_coins_X11_isOutcome
set_option maxRecDepth 20000 in
theorem ggX11_coins_X11_no : GoodIn wsX11_coins wsX11_no := goodIn_r _ [28, 8, 29, 30, 31, 32, 33, 34, 35, 36, 37, 38, 39, 40, 41, 42, 43, 44, 45, 46, 47, 48, 49, 50, 51, 52, 53, 54, 55, 56, 57, 58, 59, 60, 61, 62, 63, 64, 65, 66, 67, 68] (by decide +kernel) (by decide +kernel)
set_option maxRecDepth 20000 in
theorem gX11_coins_X11_no : GoodIn wsX11_coins (wsV RX11 177 RX11 yX11_no wsX11_no) := goodIn_app (goodIn_of _ (by decide +kernel)) ggX11_coins_X11_no
set_option maxRecDepth 20000 in
theorem ggX11_size_X11_within : GoodIn wsX11_size wsX11_within := goodIn_r _ [11] (by decide +kernel) (by decide +kernel)
set_option maxRecDepth 20000 in
theorem gX11_size_X11_within : GoodIn wsX11_size (va_wsS RX11 170 yX11_within wsX11_within) := goodIn_app (goodIn_of _ (by decide +kernel)) ggX11_size_X11_within
