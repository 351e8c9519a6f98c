set_option maxRecDepth 20000 in
theorem gX10_game_X10_refused : GoodIn wsX10_game (wsV RX10 90 RX10 yX10_refused wsX10_refused) := goodIn_app (goodIn_of _ (by decide +kernel)) ggX10_game_X10_refused
theorem dX10_game_0 : decode cX10_game 0 = .ok (.aload_n 0, 1) := by decide +kernel
theorem dX10_game_1 : decode cX10_game 1 = .ok (.invokevirtual 131, 3) := by decide +kernel
theorem dX10_game_4 : decode cX10_game 4 = .ok (.ifCond .eq 9, 3) := by decide +kernel
theorem dX10_game_7 : decode cX10_game 7 = .ok (.aload_n 0, 1) := by decide +kernel
theorem dX10_game_8 : decode cX10_game 8 = .ok (.iconst 1, 1) := by decide +kernel
theorem dX10_game_9 : decode cX10_game 9 = .ok (.invokevirtual 90, 3) := by decide +kernel
theorem dX10_game_12 : decode cX10_game 12 = .ok (.ireturn, 1) := by decide +kernel
theorem dX10_game_13 : decode cX10_game 13 = .ok (.aload_n 0, 1) := by decide +kernel
theorem dX10_game_14 : decode cX10_game 14 = .ok (.aload_n 0, 1) := by decide +kernel
theorem dX10_game_15 : decode cX10_game 15 = .ok (.getfield 57, 3) := by decide +kernel
theorem dX10_game_18 : decode cX10_game 18 = .ok (.invokevirtual 240, 3) := by decide +kernel
theorem dX10_game_21 : decode cX10_game 21 = .ok (.invokevirtual 125, 3) := by decide +kernel
theorem dX10_game_24 : decode cX10_game 24 = .ok (.ireturn, 1) := by decide +kernel
set_option maxRecDepth 20000 in
theorem ggX10_square_X3_hasRay : GoodIn wsX10_square wsX3_hasRay := goodIn_r _ [7, 8, 33, 34, 35, 36, 37, 38, 39, 40, 41, 42, 43, 44] (by decide +kernel) (by decide +kernel)
set_option maxRecDepth 20000 in
theorem gX10_square_X3_hasRay : GoodIn wsX10_square (wsV RX10 243 RX3 yX3_hasRay wsX3_hasRay) := goodIn_app (goodIn_of _ (by decide +kernel)) ggX10_square_X3_hasRay
set_option maxRecDepth 20000 in
theorem ggX10_square_X10_refused : GoodIn wsX10_square wsX10_refused := goodIn_r _ [13, 14, 19, 20, 21, 22, 23, 24, 25, 26, 27, 28, 29, 30, 31, 32] (by decide +kernel) (by decide +kernel)
set_option maxRecDepth 20000 in
theorem gX10_square_X10_refused : GoodIn wsX10_square (wsV RX10 90 RX10 yX10_refused wsX10_refused) := goodIn_app (goodIn_of _ (by decide +kernel)) ggX10_square_X10_refused
theorem dX10_square_0 : decode cX10_square 0 = .ok (.aload_n 0, 1) := by decide +kernel
theorem dX10_square_1 : decode cX10_square 1 = .ok (.getfield 64, 3) := by decide +kernel
theorem dX10_square_4 : decode cX10_square 4 = .ok (.iload_n 1, 1) := by decide +kernel
theorem dX10_square_5 : decode cX10_square 5 = .ok (.invokevirtual 243, 3) := by decide +kernel
theorem dX10_square_8 : decode cX10_square 8 = .ok (.ifCond .eq 19, 3) := by decide +kernel
theorem dX10_square_11 : decode cX10_square 11 = .ok (.aload_n 0, 1) := by decide +kernel
theorem dX10_square_12 : decode cX10_square 12 = .ok (.getfield 64, 3) := by decide +kernel
theorem dX10_square_15 : decode cX10_square 15 = .ok (.iload_n 2, 1) := by decide +kernel
theorem dX10_square_16 : decode cX10_square 16 = .ok (.invokevirtual 243, 3) := by decide +kernel
theorem dX10_square_19 : decode cX10_square 19 = .ok (.ifCond .eq 8, 3) := by decide +kernel
theorem dX10_square_22 : decode cX10_square 22 = .ok (.iload_n 1, 1) := by decide +kernel
theorem dX10_square_23 : decode cX10_square 23 = .ok (.iload_n 2, 1) := by decide +kernel
theorem dX10_square_24 : decode cX10_square 24 = .ok (.if_icmp .ne 9, 3) := by decide +kernel
theorem dX10_square_27 : decode cX10_square 27 = .ok (.aload_n 0, 1) := by decide +kernel
theorem dX10_square_28 : decode cX10_square 28 = .ok (.iconst 1, 1) := by decide +kernel
theorem dX10_square_29 : decode cX10_square 29 = .ok (.invokevirtual 90, 3) := by decide +kernel
theorem dX10_square_32 : decode cX10_square 32 = .ok (.ireturn, 1) := by decide +kernel
theorem dX10_square_33 : decode cX10_square 33 = .ok (.aload_n 0, 1) := by decide +kernel
theorem dX10_square_34 : decode cX10_square 34 = .ok (.aload_n 0, 1) := by decide +kernel
theorem dX10_square_35 : decode cX10_square 35 = .ok (.getfield 64, 3) := by decide +kernel
theorem dX10_square_38 : decode cX10_square 38 = .ok (.getfield 246, 3) := by decide +kernel
theorem dX10_square_41 : decode cX10_square 41 = .ok (.iload_n 1, 1) := by decide +kernel
theorem dX10_square_42 : decode cX10_square 42 = .ok (.iaload, 1) := by decide +kernel
theorem dX10_square_43 : decode cX10_square 43 = .ok (.iload_n 2, 1) := by decide +kernel
theorem dX10_square_44 : decode cX10_square 44 = .ok (.ishr, 1) := by decide +kernel
theorem dX10_square_45 : decode cX10_square 45 = .ok (.iconst 1, 1) := by decide +kernel
theorem dX10_square_46 : decode cX10_square 46 = .ok (.iand, 1) := by decide +kernel
theorem dX10_square_47 : decode cX10_square 47 = .ok (.invokevirtual 125, 3) := by decide +kernel
theorem dX10_square_50 : decode cX10_square 50 = .ok (.ireturn, 1) := by decide +kernel
set_option maxRecDepth 20000 in
theorem ggX10_corners_X10_noBook : GoodIn wsX10_corners wsX10_noBook := goodIn_r _ [7, 8, 9, 19, 20, 21, 22, 23, 24, 25, 26, 27, 28, 29, 30, 31, 32, 45, 46, 47, 48, 49, 50, 51, 52] (by decide +kernel) (by decide +kernel)
set_option maxRecDepth 20000 in
theorem gX10_corners_X10_noBook : GoodIn wsX10_corners (wsV RX10 131 RX10 yX10_noBook wsX10_noBook) := goodIn_app (goodIn_of _ (by decide +kernel)) ggX10_corners_X10_noBook
set_option maxRecDepth 20000 in
theorem ggX10_corners_X10_refused : GoodIn wsX10_corners wsX10_refused := goodIn_r _ [13, 14, 19, 20, 21, 22, 23, 24, 25, 26, 27, 28, 29, 30, 31, 32] (by decide +kernel) (by decide +kernel)
set_option maxRecDepth 20000 in
theorem gX10_corners_X10_refused : GoodIn wsX10_corners (wsV RX10 90 RX10 yX10_refused wsX10_refused) := goodIn_app (goodIn_of _ (by decide +kernel)) ggX10_corners_X10_refused
theorem dX10_corners_0 : decode cX10_corners 0 = .ok (.aload_n 0, 1) := by decide +kernel
theorem dX10_corners_1 : decode cX10_corners 1 = .ok (.invokevirtual 131, 3) := by decide +kernel
theorem dX10_corners_4 : decode cX10_corners 4 = .ok (.ifCond .eq 9, 3) := by decide +kernel
theorem dX10_corners_7 : decode cX10_corners 7 = .ok (.aload_n 0, 1) := by decide +kernel
theorem dX10_corners_8 : decode cX10_corners 8 = .ok (.iconst 1, 1) := by decide +kernel
theorem dX10_corners_9 : decode cX10_corners 9 = .ok (.invokevirtual 90, 3) := by decide +kernel
theorem dX10_corners_12 : decode cX10_corners 12 = .ok (.ireturn, 1) := by decide +kernel
theorem dX10_corners_13 : decode cX10_corners 13 = .ok (.aload_n 0, 1) := by decide +kernel
theorem dX10_corners_14 : decode cX10_corners 14 = .ok (.aload_n 0, 1) := by decide +kernel
theorem dX10_corners_15 : decode cX10_corners 15 = .ok (.getfield 64, 3) := by decide +kernel
theorem dX10_corners_18 : decode cX10_corners 18 = .ok (.getfield 249, 3) := by decide +kernel
theorem dX10_corners_21 : decode cX10_corners 21 = .ok (.invokevirtual 125, 3) := by decide +kernel
theorem dX10_corners_24 : decode cX10_corners 24 = .ok (.ireturn, 1) := by decide +kernel
set_option maxRecDepth 20000 in
theorem ggX10_colours_X10_noBook : GoodIn wsX10_colours wsX10_noBook := goodIn_r _ [7, 8, 9, 61, 62, 63, 64, 65, 66, 67, 68, 69, 70, 71, 72, 73, 74, 87, 88, 89, 90, 91, 92, 93, 94] (by decide +kernel) (by decide +kernel)
set_option maxRecDepth 20000 in
theorem gX10_colours_X10_noBook : GoodIn wsX10_colours (wsV RX10 131 RX10 yX10_noBook wsX10_noBook) := goodIn_app (goodIn_of _ (by decide +kernel)) ggX10_colours_X10_noBook
set_option maxRecDepth 20000 in
theorem ggX10_colours_X10_refused : GoodIn wsX10_colours wsX10_refused := goodIn_r _ [13, 14, 61, 62, 63, 64, 65, 66, 67, 68, 69, 70, 71, 72, 73, 74] (by decide +kernel) (by decide +kernel)
set_option maxRecDepth 20000 in
theorem gX10_colours_X10_refused : GoodIn wsX10_colours (wsV RX10 90 RX10 yX10_refused wsX10_refused) := goodIn_app (goodIn_of _ (by decide +kernel)) ggX10_colours_X10_refused
theorem dX10_colours_0 : decode cX10_colours 0 = .ok (.aload_n 0, 1) := by decide +kernel
theorem dX10_colours_1 : decode cX10_colours 1 = .ok (.invokevirtual 131, 3) := by decide +kernel
theorem dX10_colours_4 : decode cX10_colours 4 = .ok (.ifCond .eq 9, 3) := by decide +kernel
theorem dX10_colours_7 : decode cX10_colours 7 = .ok (.aload_n 0, 1) := by decide +kernel
theorem dX10_colours_8 : decode cX10_colours 8 = .ok (.iconst 1, 1) := by decide +kernel
theorem dX10_colours_9 : decode cX10_colours 9 = .ok (.invokevirtual 90, 3) := by decide +kernel
theorem dX10_colours_12 : decode cX10_colours 12 = .ok (.ireturn, 1) := by decide +kernel
theorem dX10_colours_13 : decode cX10_colours 13 = .ok (.aload_n 0, 1) := by decide +kernel
theorem dX10_colours_14 : decode cX10_colours 14 = .ok (.getfield 64, 3) := by decide +kernel
theorem dX10_colours_17 : decode cX10_colours 17 = .ok (.invokevirtual 252, 3) := by decide +kernel
theorem dX10_colours_20 : decode cX10_colours 20 = .ok (.aload_n 0, 1) := by decide +kernel
theorem dX10_colours_21 : decode cX10_colours 21 = .ok (.aload_n 0, 1) := by decide +kernel
theorem dX10_colours_22 : decode cX10_colours 22 = .ok (.getfield 64, 3) := by decide +kernel
theorem dX10_colours_25 : decode cX10_colours 25 = .ok (.getfield 255, 3) := by decide +kernel
theorem dX10_colours_28 : decode cX10_colours 28 = .ok (.invokevirtual 125, 3) := by decide +kernel
theorem dX10_colours_31 : decode cX10_colours 31 = .ok (.ireturn, 1) := by decide +kernel
set_option maxRecDepth 20000 in
theorem ggX10_ones_X10_noBook : GoodIn wsX10_ones wsX10_noBook := goodIn_r _ [8, 9, 10, 62, 63, 64, 65, 66, 67, 68, 69, 70, 71, 72, 73, 74, 75, 88, 89, 90, 91, 92, 93, 94, 95] (by decide +kernel) (by decide +kernel)
set_option maxRecDepth 20000 in
theorem gX10_ones_X10_noBook : GoodIn wsX10_ones (wsV RX10 131 RX10 yX10_noBook wsX10_noBook) := goodIn_app (goodIn_of _ (by decide +kernel)) ggX10_ones_X10_noBook
set_option maxRecDepth 20000 in
theorem ggX10_ones_X10_refused : GoodIn wsX10_ones wsX10_refused := goodIn_r _ [14, 15, 62, 63, 64, 65, 66, 67, 68, 69, 70, 71, 72, 73, 74, 75] (by decide +kernel) (by decide +kernel)
set_option maxRecDepth 20000 in
theorem gX10_ones_X10_refused : GoodIn wsX10_ones (wsV RX10 90 RX10 yX10_refused wsX10_refused) := goodIn_app (goodIn_of _ (by decide +kernel)) ggX10_ones_X10_refused
theorem dX10_ones_0 : decode cX10_ones 0 = .ok (.aload_n 0, 1) := by decide +kernel
theorem dX10_ones_1 : decode cX10_ones 1 = .ok (.invokevirtual 131, 3) := by decide +kernel
theorem dX10_ones_4 : decode cX10_ones 4 = .ok (.ifCond .eq 9, 3) := by decide +kernel
theorem dX10_ones_7 : decode cX10_ones 7 = .ok (.aload_n 0, 1) := by decide +kernel
theorem dX10_ones_8 : decode cX10_ones 8 = .ok (.iconst 1, 1) := by decide +kernel
theorem dX10_ones_9 : decode cX10_ones 9 = .ok (.invokevirtual 90, 3) := by decide +kernel
theorem dX10_ones_12 : decode cX10_ones 12 = .ok (.ireturn, 1) := by decide +kernel
theorem dX10_ones_13 : decode cX10_ones 13 = .ok (.aload_n 0, 1) := by decide +kernel
theorem dX10_ones_14 : decode cX10_ones 14 = .ok (.getfield 64, 3) := by decide +kernel
theorem dX10_ones_17 : decode cX10_ones 17 = .ok (.invokevirtual 252, 3) := by decide +kernel
theorem dX10_ones_20 : decode cX10_ones 20 = .ok (.aload_n 0, 1) := by decide +kernel
theorem dX10_ones_21 : decode cX10_ones 21 = .ok (.getfield 64, 3) := by decide +kernel
theorem dX10_ones_24 : decode cX10_ones 24 = .ok (.getfield 255, 3) := by decide +kernel
theorem dX10_ones_27 : decode cX10_ones 27 = .ok (.ifCond .ne 12, 3) := by decide +kernel
theorem dX10_ones_30 : decode cX10_ones 30 = .ok (.aload_n 0, 1) := by decide +kernel
theorem dX10_ones_31 : decode cX10_ones 31 = .ok (.bipush 6, 2) := by decide +kernel
theorem dX10_ones_33 : decode cX10_ones 33 = .ok (.invokevirtual 90, 3) := by decide +kernel
theorem dX10_ones_36 : decode cX10_ones 36 = .ok (.goto 14, 3) := by decide +kernel
theorem dX10_ones_39 : decode cX10_ones 39 = .ok (.aload_n 0, 1) := by decide +kernel
theorem dX10_ones_40 : decode cX10_ones 40 = .ok (.aload_n 0, 1) := by decide +kernel
theorem dX10_ones_41 : decode cX10_ones 41 = .ok (.getfield 64, 3) := by decide +kernel
theorem dX10_ones_44 : decode cX10_ones 44 = .ok (.getfield 258, 3) := by decide +kernel
theorem dX10_ones_47 : decode cX10_ones 47 = .ok (.invokevirtual 125, 3) := by decide +kernel
theorem dX10_ones_50 : decode cX10_ones 50 = .ok (.ireturn, 1) := by decide +kernel
set_option maxRecDepth 20000 in
theorem ggX10_spare_X10_noBook : GoodIn wsX10_spare wsX10_noBook := goodIn_r _ [7, 8, 9, 61, 62, 63, 64, 65, 66, 67, 68, 69, 70, 71, 72, 73, 74, 87, 88, 89, 90, 91, 92, 93, 94] (by decide +kernel) (by decide +kernel)
set_option maxRecDepth 20000 in
theorem gX10_spare_X10_noBook : GoodIn wsX10_spare (wsV RX10 131 RX10 yX10_noBook wsX10_noBook) := goodIn_app (goodIn_of _ (by decide +kernel)) ggX10_spare_X10_noBook
set_option maxRecDepth 20000 in
theorem ggX10_spare_X10_refused : GoodIn wsX10_spare wsX10_refused := goodIn_r _ [13, 14, 61, 62, 63, 64, 65, 66, 67, 68, 69, 70, 71, 72, 73, 74] (by decide +kernel) (by decide +kernel)
set_option maxRecDepth 20000 in
theorem gX10_spare_X10_refused : GoodIn wsX10_spare (wsV RX10 90 RX10 yX10_refused wsX10_refused) := goodIn_app (goodIn_of _ (by decide +kernel)) ggX10_spare_X10_refused
theorem dX10_spare_0 : decode cX10_spare 0 = .ok (.aload_n 0, 1) := by decide +kernel
theorem dX10_spare_1 : decode cX10_spare 1 = .ok (.invokevirtual 131, 3) := by decide +kernel
theorem dX10_spare_4 : decode cX10_spare 4 = .ok (.ifCond .eq 9, 3) := by decide +kernel
theorem dX10_spare_7 : decode cX10_spare 7 = .ok (.aload_n 0, 1) := by decide +kernel
theorem dX10_spare_8 : decode cX10_spare 8 = .ok (.iconst 1, 1) := by decide +kernel
theorem dX10_spare_9 : decode cX10_spare 9 = .ok (.invokevirtual 90, 3) := by decide +kernel
theorem dX10_spare_12 : decode cX10_spare 12 = .ok (.ireturn, 1) := by decide +kernel
theorem dX10_spare_13 : decode cX10_spare 13 = .ok (.aload_n 0, 1) := by decide +kernel
theorem dX10_spare_14 : decode cX10_spare 14 = .ok (.getfield 64, 3) := by decide +kernel
theorem dX10_spare_17 : decode cX10_spare 17 = .ok (.invokevirtual 252, 3) := by decide +kernel
theorem dX10_spare_20 : decode cX10_spare 20 = .ok (.aload_n 0, 1) := by decide +kernel
theorem dX10_spare_21 : decode cX10_spare 21 = .ok (.aload_n 0, 1) := by decide +kernel
theorem dX10_spare_22 : decode cX10_spare 22 = .ok (.getfield 64, 3) := by decide +kernel
theorem dX10_spare_25 : decode cX10_spare 25 = .ok (.getfield 261, 3) := by decide +kernel
theorem dX10_spare_28 : decode cX10_spare 28 = .ok (.invokevirtual 125, 3) := by decide +kernel
theorem dX10_spare_31 : decode cX10_spare 31 = .ok (.ireturn, 1) := by decide +kernel
set_option maxRecDepth 20000 in
theorem ggX10_critical_X10_noBook : GoodIn wsX10_critical wsX10_noBook := goodIn_r _ [8, 9, 10, 62, 63, 64, 65, 66, 67, 68, 69, 70, 71, 72, 73, 74, 75, 88, 89, 90, 91, 92, 93, 94, 95] (by decide +kernel) (by decide +kernel)
set_option maxRecDepth 20000 in
theorem gX10_critical_X10_noBook : GoodIn wsX10_critical (wsV RX10 131 RX10 yX10_noBook wsX10_noBook) := goodIn_app (goodIn_of _ (by decide +kernel)) ggX10_critical_X10_noBook
set_option maxRecDepth 20000 in
theorem ggX10_critical_X10_refused : GoodIn wsX10_critical wsX10_refused := goodIn_r _ [14, 15, 62, 63, 64, 65, 66, 67, 68, 69, 70, 71, 72, 73, 74, 75] (by decide +kernel) (by decide +kernel)
set_option maxRecDepth 20000 in
theorem gX10_critical_X10_refused : GoodIn wsX10_critical (wsV RX10 90 RX10 yX10_refused wsX10_refused) := goodIn_app (goodIn_of _ (by decide +kernel)) ggX10_critical_X10_refused
theorem dX10_critical_0 : decode cX10_critical 0 = .ok (.aload_n 0, 1) := by decide +kernel
theorem dX10_critical_1 : decode cX10_critical 1 = .ok (.invokevirtual 131, 3) := by decide +kernel
theorem dX10_critical_4 : decode cX10_critical 4 = .ok (.ifCond .eq 9, 3) := by decide +kernel
theorem dX10_critical_7 : decode cX10_critical 7 = .ok (.aload_n 0, 1) := by decide +kernel
theorem dX10_critical_8 : decode cX10_critical 8 = .ok (.iconst 1, 1) := by decide +kernel
theorem dX10_critical_9 : decode cX10_critical 9 = .ok (.invokevirtual 90, 3) := by decide +kernel
theorem dX10_critical_12 : decode cX10_critical 12 = .ok (.ireturn, 1) := by decide +kernel
theorem dX10_critical_13 : decode cX10_critical 13 = .ok (.aload_n 0, 1) := by decide +kernel
theorem dX10_critical_14 : decode cX10_critical 14 = .ok (.getfield 64, 3) := by decide +kernel
theorem dX10_critical_17 : decode cX10_critical 17 = .ok (.invokevirtual 252, 3) := by decide +kernel
theorem dX10_critical_20 : decode cX10_critical 20 = .ok (.aload_n 0, 1) := by decide +kernel
theorem dX10_critical_21 : decode cX10_critical 21 = .ok (.getfield 64, 3) := by decide +kernel
theorem dX10_critical_24 : decode cX10_critical 24 = .ok (.getfield 255, 3) := by decide +kernel
theorem dX10_critical_27 : decode cX10_critical 27 = .ok (.ifCond .eq 12, 3) := by decide +kernel
theorem dX10_critical_30 : decode cX10_critical 30 = .ok (.aload_n 0, 1) := by decide +kernel
theorem dX10_critical_31 : decode cX10_critical 31 = .ok (.bipush 6, 2) := by decide +kernel
theorem dX10_critical_33 : decode cX10_critical 33 = .ok (.invokevirtual 90, 3) := by decide +kernel
theorem dX10_critical_36 : decode cX10_critical 36 = .ok (.goto 14, 3) := by decide +kernel
theorem dX10_critical_39 : decode cX10_critical 39 = .ok (.aload_n 0, 1) := by decide +kernel
theorem dX10_critical_40 : decode cX10_critical 40 = .ok (.aload_n 0, 1) := by decide +kernel
theorem dX10_critical_41 : decode cX10_critical 41 = .ok (.getfield 64, 3) := by decide +kernel
theorem dX10_critical_44 : decode cX10_critical 44 = .ok (.getfield 264, 3) := by decide +kernel
theorem dX10_critical_47 : decode cX10_critical 47 = .ok (.invokevirtual 125, 3) := by decide +kernel
theorem dX10_critical_50 : decode cX10_critical 50 = .ok (.ireturn, 1) := by decide +kernel
set_option maxRecDepth 20000 in
theorem ggX10_memory_X10_noBook : GoodIn wsX10_memory wsX10_noBook := goodIn_r _ [7, 8, 9, 48, 49, 50, 51, 52, 53, 54, 55, 56, 57, 58, 59, 60, 61, 72, 73, 74, 75, 76, 77, 78, 79] (by decide +kernel) (by decide +kernel)
set_option maxRecDepth 20000 in
theorem gX10_memory_X10_noBook : GoodIn wsX10_memory (wsV RX10 131 RX10 yX10_noBook wsX10_noBook) := goodIn_app (goodIn_of _ (by decide +kernel)) ggX10_memory_X10_noBook
set_option maxRecDepth 20000 in
theorem ggX10_memory_X10_refused : GoodIn wsX10_memory wsX10_refused := goodIn_r _ [13, 14, 48, 49, 50, 51, 52, 53, 54, 55, 56, 57, 58, 59, 60, 61] (by decide +kernel) (by decide +kernel)
set_option maxRecDepth 20000 in
theorem gX10_memory_X10_refused : GoodIn wsX10_memory (wsV RX10 90 RX10 yX10_refused wsX10_refused) := goodIn_app (goodIn_of _ (by decide +kernel)) ggX10_memory_X10_refused
theorem dX10_memory_0 : decode cX10_memory 0 = .ok (.aload_n 0, 1) := by decide +kernel
theorem dX10_memory_1 : decode cX10_memory 1 = .ok (.invokevirtual 131, 3) := by decide +kernel
theorem dX10_memory_4 : decode cX10_memory 4 = .ok (.ifCond .eq 9, 3) := by decide +kernel
theorem dX10_memory_7 : decode cX10_memory 7 = .ok (.aload_n 0, 1) := by decide +kernel
theorem dX10_memory_8 : decode cX10_memory 8 = .ok (.iconst 1, 1) := by decide +kernel
theorem dX10_memory_9 : decode cX10_memory 9 = .ok (.invokevirtual 90, 3) := by decide +kernel
theorem dX10_memory_12 : decode cX10_memory 12 = .ok (.ireturn, 1) := by decide +kernel
theorem dX10_memory_13 : decode cX10_memory 13 = .ok (.aload_n 0, 1) := by decide +kernel
theorem dX10_memory_14 : decode cX10_memory 14 = .ok (.getfield 71, 3) := by decide +kernel
theorem dX10_memory_17 : decode cX10_memory 17 = .ok (.invokevirtual 267, 3) := by decide +kernel
theorem dX10_memory_20 : decode cX10_memory 20 = .ok (.aload_n 0, 1) := by decide +kernel
theorem dX10_memory_21 : decode cX10_memory 21 = .ok (.aload_n 0, 1) := by decide +kernel
theorem dX10_memory_22 : decode cX10_memory 22 = .ok (.getfield 71, 3) := by decide +kernel
theorem dX10_memory_25 : decode cX10_memory 25 = .ok (.getfield 268, 3) := by decide +kernel
theorem dX10_memory_28 : decode cX10_memory 28 = .ok (.ifCond .ne 8, 3) := by decide +kernel
theorem dX10_memory_31 : decode cX10_memory 31 = .ok (.bipush (-2), 2) := by decide +kernel
theorem dX10_memory_33 : decode cX10_memory 33 = .ok (.goto 10, 3) := by decide +kernel
theorem dX10_memory_36 : decode cX10_memory 36 = .ok (.aload_n 0, 1) := by decide +kernel
theorem dX10_memory_37 : decode cX10_memory 37 = .ok (.getfield 71, 3) := by decide +kernel
theorem dX10_memory_40 : decode cX10_memory 40 = .ok (.getfield 268, 3) := by decide +kernel
theorem dX10_memory_43 : decode cX10_memory 43 = .ok (.invokevirtual 125, 3) := by decide +kernel
theorem dX10_memory_46 : decode cX10_memory 46 = .ok (.ireturn, 1) := by decide +kernel
set_option maxRecDepth 20000 in
theorem ggX10_machine_X8_hasLook : GoodIn wsX10_machine wsX8_hasLook := goodIn_r _ [8, 9, 77, 78, 79, 80, 81, 82, 83, 84] (by decide +kernel) (by decide +kernel)
set_option maxRecDepth 20000 in
theorem gX10_machine_X8_hasLook : GoodIn wsX10_machine (wsV RX10 142 RX8 yX8_hasLook wsX8_hasLook) := goodIn_app (goodIn_of _ (by decide +kernel)) ggX10_machine_X8_hasLook
set_option maxRecDepth 20000 in
theorem ggX10_machine_X10_refused : GoodIn wsX10_machine wsX10_refused := goodIn_r _ [14, 15, 53, 54, 55, 56, 57, 58, 59, 60, 61, 62, 63, 64, 65, 66] (by decide +kernel) (by decide +kernel)
set_option maxRecDepth 20000 in
theorem gX10_machine_X10_refused : GoodIn wsX10_machine (wsV RX10 90 RX10 yX10_refused wsX10_refused) := goodIn_app (goodIn_of _ (by decide +kernel)) ggX10_machine_X10_refused
theorem dX10_machine_0 : decode cX10_machine 0 = .ok (.iload_n 1, 1) := by decide +kernel
theorem dX10_machine_1 : decode cX10_machine 1 = .ok (.ifCond .lt 19, 3) := by decide +kernel
theorem dX10_machine_4 : decode cX10_machine 4 = .ok (.iload_n 1, 1) := by decide +kernel
theorem dX10_machine_5 : decode cX10_machine 5 = .ok (.iconst 3, 1) := by decide +kernel
theorem dX10_machine_6 : decode cX10_machine 6 = .ok (.if_icmp .ge 14, 3) := by decide +kernel
theorem dX10_machine_9 : decode cX10_machine 9 = .ok (.aload_n 0, 1) := by decide +kernel
theorem dX10_machine_10 : decode cX10_machine 10 = .ok (.getfield 25, 3) := by decide +kernel
theorem dX10_machine_13 : decode cX10_machine 13 = .ok (.iload_n 2, 1) := by decide +kernel
theorem dX10_machine_14 : decode cX10_machine 14 = .ok (.invokevirtual 142, 3) := by decide +kernel
theorem dX10_machine_17 : decode cX10_machine 17 = .ok (.ifCond .ne 9, 3) := by decide +kernel
theorem dX10_machine_20 : decode cX10_machine 20 = .ok (.aload_n 0, 1) := by decide +kernel
theorem dX10_machine_21 : decode cX10_machine 21 = .ok (.iconst 1, 1) := by decide +kernel
theorem dX10_machine_22 : decode cX10_machine 22 = .ok (.invokevirtual 90, 3) := by decide +kernel
theorem dX10_machine_25 : decode cX10_machine 25 = .ok (.ireturn, 1) := by decide +kernel
theorem dX10_machine_26 : decode cX10_machine 26 = .ok (.aload_n 0, 1) := by decide +kernel
theorem dX10_machine_27 : decode cX10_machine 27 = .ok (.getfield 71, 3) := by decide +kernel
theorem dX10_machine_30 : decode cX10_machine 30 = .ok (.invokevirtual 267, 3) := by decide +kernel
theorem dX10_machine_33 : decode cX10_machine 33 = .ok (.aload_n 0, 1) := by decide +kernel
theorem dX10_machine_34 : decode cX10_machine 34 = .ok (.getfield 71, 3) := by decide +kernel
theorem dX10_machine_37 : decode cX10_machine 37 = .ok (.getfield 268, 3) := by decide +kernel
theorem dX10_machine_40 : decode cX10_machine 40 = .ok (.ifCond .ne 10, 3) := by decide +kernel
theorem dX10_machine_43 : decode cX10_machine 43 = .ok (.aload_n 0, 1) := by decide +kernel
theorem dX10_machine_44 : decode cX10_machine 44 = .ok (.bipush 6, 2) := by decide +kernel
theorem dX10_machine_46 : decode cX10_machine 46 = .ok (.invokevirtual 90, 3) := by decide +kernel
theorem dX10_machine_49 : decode cX10_machine 49 = .ok (.ireturn, 1) := by decide +kernel
theorem dX10_machine_50 : decode cX10_machine 50 = .ok (.aload_n 0, 1) := by decide +kernel
theorem dX10_machine_51 : decode cX10_machine 51 = .ok (.aload_n 0, 1) := by decide +kernel
theorem dX10_machine_52 : decode cX10_machine 52 = .ok (.getfield 71, 3) := by decide +kernel
theorem dX10_machine_55 : decode cX10_machine 55 = .ok (.iload_n 1, 1) := by decide +kernel
theorem dX10_machine_56 : decode cX10_machine 56 = .ok (.iload_n 2, 1) := by decide +kernel
theorem dX10_machine_57 : decode cX10_machine 57 = .ok (.iload_n 3, 1) := by decide +kernel
theorem dX10_machine_58 : decode cX10_machine 58 = .ok (.invokevirtual 271, 3) := by decide +kernel
theorem dX10_machine_61 : decode cX10_machine 61 = .ok (.invokevirtual 125, 3) := by decide +kernel
theorem dX10_machine_64 : decode cX10_machine 64 = .ok (.ireturn, 1) := by decide +kernel
set_option maxRecDepth 20000 in
theorem ggX10_flip_X8_hasLook : GoodIn wsX10_flip wsX8_hasLook := goodIn_r _ [7, 8, 69, 70, 71, 72, 73, 74, 75, 76] (by decide +kernel) (by decide +kernel)
set_option maxRecDepth 20000 in
theorem gX10_flip_X8_hasLook : GoodIn wsX10_flip (wsV RX10 142 RX8 yX8_hasLook wsX8_hasLook) := goodIn_app (goodIn_of _ (by decide +kernel)) ggX10_flip_X8_hasLook
set_option maxRecDepth 20000 in
theorem ggX10_flip_X10_denied : GoodIn wsX10_flip wsX10_denied := goodIn_r _ [13, 14, 55, 56, 57, 58, 59, 60, 61, 62, 63, 64, 65, 66, 67, 68] (by decide +kernel) (by decide +kernel)
set_option maxRecDepth 20000 in
theorem gX10_flip_X10_denied : GoodIn wsX10_flip (wsV RX10 197 RX10 yX10_denied wsX10_denied) := goodIn_app (goodIn_of _ (by decide +kernel)) ggX10_flip_X10_denied
theorem dX10_flip_0 : decode cX10_flip 0 = .ok (.aload_n 0, 1) := by decide +kernel
theorem dX10_flip_1 : decode cX10_flip 1 = .ok (.getfield 25, 3) := by decide +kernel
theorem dX10_flip_4 : decode cX10_flip 4 = .ok (.iload_n 1, 1) := by decide +kernel
theorem dX10_flip_5 : decode cX10_flip 5 = .ok (.invokevirtual 142, 3) := by decide +kernel
theorem dX10_flip_8 : decode cX10_flip 8 = .ok (.ifCond .ne 9, 3) := by decide +kernel
theorem dX10_flip_11 : decode cX10_flip 11 = .ok (.aload_n 0, 1) := by decide +kernel
theorem dX10_flip_12 : decode cX10_flip 12 = .ok (.iconst 1, 1) := by decide +kernel
theorem dX10_flip_13 : decode cX10_flip 13 = .ok (.invokevirtual 197, 3) := by decide +kernel
theorem dX10_flip_16 : decode cX10_flip 16 = .ok (.ireturn, 1) := by decide +kernel
theorem dX10_flip_17 : decode cX10_flip 17 = .ok (.aload_n 0, 1) := by decide +kernel
theorem dX10_flip_18 : decode cX10_flip 18 = .ok (.getfield 78, 3) := by decide +kernel
theorem dX10_flip_21 : decode cX10_flip 21 = .ok (.iconst 0, 1) := by decide +kernel
theorem dX10_flip_22 : decode cX10_flip 22 = .ok (.iload_n 1, 1) := by decide +kernel
theorem dX10_flip_23 : decode cX10_flip 23 = .ok (.invokevirtual 275, 3) := by decide +kernel
theorem dX10_flip_26 : decode cX10_flip 26 = .ok (.aload_n 0, 1) := by decide +kernel
theorem dX10_flip_27 : decode cX10_flip 27 = .ok (.getfield 25, 3) := by decide +kernel
theorem dX10_flip_30 : decode cX10_flip 30 = .ok (.iload_n 1, 1) := by decide +kernel
theorem dX10_flip_31 : decode cX10_flip 31 = .ok (.invokevirtual 279, 3) := by decide +kernel
theorem dX10_flip_34 : decode cX10_flip 34 = .ok (.aload_n 0, 1) := by decide +kernel
theorem dX10_flip_35 : decode cX10_flip 35 = .ok (.invokevirtual 203, 3) := by decide +kernel
theorem dX10_flip_38 : decode cX10_flip 38 = .ok (.ireturn, 1) := by decide +kernel
set_option maxRecDepth 20000 in
theorem ggX10_drop_X8_hasSet : GoodIn wsX10_drop wsX8_hasSet := goodIn_r _ [7, 8, 64, 65, 66, 67, 68, 69, 70, 71] (by decide +kernel) (by decide +kernel)
set_option maxRecDepth 20000 in
theorem gX10_drop_X8_hasSet : GoodIn wsX10_drop (wsV RX10 282 RX8 yX8_hasSet wsX8_hasSet) := goodIn_app (goodIn_of _ (by decide +kernel)) ggX10_drop_X8_hasSet
set_option maxRecDepth 20000 in
theorem ggX10_drop_X10_denied : GoodIn wsX10_drop wsX10_denied := goodIn_r _ [13, 14, 50, 51, 52, 53, 54, 55, 56, 57, 58, 59, 60, 61, 62, 63] (by decide +kernel) (by decide +kernel)
set_option maxRecDepth 20000 in
theorem gX10_drop_X10_denied : GoodIn wsX10_drop (wsV RX10 197 RX10 yX10_denied wsX10_denied) := goodIn_app (goodIn_of _ (by decide +kernel)) ggX10_drop_X10_denied
theorem dX10_drop_0 : decode cX10_drop 0 = .ok (.aload_n 0, 1) := by decide +kernel
theorem dX10_drop_1 : decode cX10_drop 1 = .ok (.getfield 25, 3) := by decide +kernel
theorem dX10_drop_4 : decode cX10_drop 4 = .ok (.iload_n 1, 1) := by decide +kernel
theorem dX10_drop_5 : decode cX10_drop 5 = .ok (.invokevirtual 282, 3) := by decide +kernel
theorem dX10_drop_8 : decode cX10_drop 8 = .ok (.ifCond .ne 9, 3) := by decide +kernel
theorem dX10_drop_11 : decode cX10_drop 11 = .ok (.aload_n 0, 1) := by decide +kernel
theorem dX10_drop_12 : decode cX10_drop 12 = .ok (.iconst 1, 1) := by decide +kernel
theorem dX10_drop_13 : decode cX10_drop 13 = .ok (.invokevirtual 197, 3) := by decide +kernel
theorem dX10_drop_16 : decode cX10_drop 16 = .ok (.ireturn, 1) := by decide +kernel
theorem dX10_drop_17 : decode cX10_drop 17 = .ok (.aload_n 0, 1) := by decide +kernel
theorem dX10_drop_18 : decode cX10_drop 18 = .ok (.getfield 78, 3) := by decide +kernel
theorem dX10_drop_21 : decode cX10_drop 21 = .ok (.iconst 1, 1) := by decide +kernel
theorem dX10_drop_22 : decode cX10_drop 22 = .ok (.iload_n 1, 1) := by decide +kernel
theorem dX10_drop_23 : decode cX10_drop 23 = .ok (.invokevirtual 275, 3) := by decide +kernel
theorem dX10_drop_26 : decode cX10_drop 26 = .ok (.aload_n 0, 1) := by decide +kernel
theorem dX10_drop_27 : decode cX10_drop 27 = .ok (.getfield 25, 3) := by decide +kernel
theorem dX10_drop_30 : decode cX10_drop 30 = .ok (.iload_n 1, 1) := by decide +kernel
theorem dX10_drop_31 : decode cX10_drop 31 = .ok (.invokevirtual 285, 3) := by decide +kernel
theorem dX10_drop_34 : decode cX10_drop 34 = .ok (.aload_n 0, 1) := by decide +kernel
theorem dX10_drop_35 : decode cX10_drop 35 = .ok (.invokevirtual 203, 3) := by decide +kernel
theorem dX10_drop_38 : decode cX10_drop 38 = .ok (.ireturn, 1) := by decide +kernel
set_option maxRecDepth 20000 in
theorem ggX10_forget_X8_hasLook : GoodIn wsX10_forget wsX8_hasLook := goodIn_r _ [7, 8, 77, 78, 79, 80, 81, 82, 83, 84] (by decide +kernel) (by decide +kernel)
set_option maxRecDepth 20000 in
theorem gX10_forget_X8_hasLook : GoodIn wsX10_forget (wsV RX10 142 RX8 yX8_hasLook wsX8_hasLook) := goodIn_app (goodIn_of _ (by decide +kernel)) ggX10_forget_X8_hasLook
set_option maxRecDepth 20000 in
theorem ggX10_forget_X10_denied : GoodIn wsX10_forget wsX10_denied := goodIn_r _ [13, 14, 63, 64, 65, 66, 67, 68, 69, 70, 71, 72, 73, 74, 75, 76] (by decide +kernel) (by decide +kernel)
set_option maxRecDepth 20000 in
theorem gX10_forget_X10_denied : GoodIn wsX10_forget (wsV RX10 197 RX10 yX10_denied wsX10_denied) := goodIn_app (goodIn_of _ (by decide +kernel)) ggX10_forget_X10_denied
theorem dX10_forget_0 : decode cX10_forget 0 = .ok (.aload_n 0, 1) := by decide +kernel
theorem dX10_forget_1 : decode cX10_forget 1 = .ok (.getfield 25, 3) := by decide +kernel
theorem dX10_forget_4 : decode cX10_forget 4 = .ok (.iload_n 1, 1) := by decide +kernel
theorem dX10_forget_5 : decode cX10_forget 5 = .ok (.invokevirtual 142, 3) := by decide +kernel
theorem dX10_forget_8 : decode cX10_forget 8 = .ok (.ifCond .ne 9, 3) := by decide +kernel
theorem dX10_forget_11 : decode cX10_forget 11 = .ok (.aload_n 0, 1) := by decide +kernel
theorem dX10_forget_12 : decode cX10_forget 12 = .ok (.iconst 1, 1) := by decide +kernel
theorem dX10_forget_13 : decode cX10_forget 13 = .ok (.invokevirtual 197, 3) := by decide +kernel
theorem dX10_forget_16 : decode cX10_forget 16 = .ok (.ireturn, 1) := by decide +kernel
theorem dX10_forget_17 : decode cX10_forget 17 = .ok (.aload_n 0, 1) := by decide +kernel
theorem dX10_forget_18 : decode cX10_forget 18 = .ok (.getfield 25, 3) := by decide +kernel
theorem dX10_forget_21 : decode cX10_forget 21 = .ok (.iload_n 1, 1) := by decide +kernel
theorem dX10_forget_22 : decode cX10_forget 22 = .ok (.invokevirtual 288, 3) := by decide +kernel
theorem dX10_forget_25 : decode cX10_forget 25 = .ok (.ifCond .ne 9, 3) := by decide +kernel
theorem dX10_forget_28 : decode cX10_forget 28 = .ok (.aload_n 0, 1) := by decide +kernel
theorem dX10_forget_29 : decode cX10_forget 29 = .ok (.iconst 5, 1) := by decide +kernel
theorem dX10_forget_30 : decode cX10_forget 30 = .ok (.invokevirtual 197, 3) := by decide +kernel
theorem dX10_forget_33 : decode cX10_forget 33 = .ok (.ireturn, 1) := by decide +kernel
theorem dX10_forget_34 : decode cX10_forget 34 = .ok (.aload_n 0, 1) := by decide +kernel
theorem dX10_forget_35 : decode cX10_forget 35 = .ok (.getfield 78, 3) := by decide +kernel
theorem dX10_forget_38 : decode cX10_forget 38 = .ok (.iconst 2, 1) := by decide +kernel
theorem dX10_forget_39 : decode cX10_forget 39 = .ok (.iload_n 1, 1) := by decide +kernel
theorem dX10_forget_40 : decode cX10_forget 40 = .ok (.invokevirtual 275, 3) := by decide +kernel
theorem dX10_forget_43 : decode cX10_forget 43 = .ok (.aload_n 0, 1) := by decide +kernel
theorem dX10_forget_44 : decode cX10_forget 44 = .ok (.getfield 25, 3) := by decide +kernel
theorem dX10_forget_47 : decode cX10_forget 47 = .ok (.iload_n 1, 1) := by decide +kernel
theorem dX10_forget_48 : decode cX10_forget 48 = .ok (.invokevirtual 291, 3) := by decide +kernel
theorem dX10_forget_51 : decode cX10_forget 51 = .ok (.aload_n 0, 1) := by decide +kernel
theorem dX10_forget_52 : decode cX10_forget 52 = .ok (.invokevirtual 203, 3) := by decide +kernel
theorem dX10_forget_55 : decode cX10_forget 55 = .ok (.ireturn, 1) := by decide +kernel
set_option maxRecDepth 20000 in
theorem ggX10_shift_X8_hasOutcome : GoodIn wsX10_shift wsX8_hasOutcome := goodIn_r _ [8, 9, 10, 11, 7, 12, 13, 14, 15, 16, 17, 18, 76, 77, 78, 79, 80, 81, 82, 83] (by decide +kernel) (by decide +kernel)
set_option maxRecDepth 20000 in
theorem gX10_shift_X8_hasOutcome : GoodIn wsX10_shift (wsV RX10 156 RX8 yX8_hasOutcome wsX8_hasOutcome) := goodIn_app (goodIn_of _ (by decide +kernel)) ggX10_shift_X8_hasOutcome
set_option maxRecDepth 20000 in
theorem ggX10_shift_X10_denied : GoodIn wsX10_shift wsX10_denied := goodIn_r _ [23, 24, 62, 63, 64, 65, 66, 67, 68, 69, 70, 71, 72, 73, 74, 75] (by decide +kernel) (by decide +kernel)
set_option maxRecDepth 20000 in
theorem gX10_shift_X10_denied : GoodIn wsX10_shift (wsV RX10 197 RX10 yX10_denied wsX10_denied) := goodIn_app (goodIn_of _ (by decide +kernel)) ggX10_shift_X10_denied
theorem dX10_shift_0 : decode cX10_shift 0 = .ok (.aload_n 0, 1) := by decide +kernel
theorem dX10_shift_1 : decode cX10_shift 1 = .ok (.getfield 25, 3) := by decide +kernel
theorem dX10_shift_4 : decode cX10_shift 4 = .ok (.iload_n 1, 1) := by decide +kernel
theorem dX10_shift_5 : decode cX10_shift 5 = .ok (.iload_n 2, 1) := by decide +kernel
theorem dX10_shift_6 : decode cX10_shift 6 = .ok (.invokevirtual 156, 3) := by decide +kernel
theorem dX10_shift_9 : decode cX10_shift 9 = .ok (.ifCond .eq 20, 3) := by decide +kernel
theorem dX10_shift_12 : decode cX10_shift 12 = .ok (.aload_n 0, 1) := by decide +kernel
theorem dX10_shift_13 : decode cX10_shift 13 = .ok (.getfield 25, 3) := by decide +kernel
theorem dX10_shift_16 : decode cX10_shift 16 = .ok (.iload_n 1, 1) := by decide +kernel
theorem dX10_shift_17 : decode cX10_shift 17 = .ok (.iload_n 3, 1) := by decide +kernel
theorem dX10_shift_18 : decode cX10_shift 18 = .ok (.invokevirtual 156, 3) := by decide +kernel
theorem dX10_shift_21 : decode cX10_shift 21 = .ok (.ifCond .eq 8, 3) := by decide +kernel
theorem dX10_shift_24 : decode cX10_shift 24 = .ok (.iload_n 2, 1) := by decide +kernel
theorem dX10_shift_25 : decode cX10_shift 25 = .ok (.iload_n 3, 1) := by decide +kernel
theorem dX10_shift_26 : decode cX10_shift 26 = .ok (.if_icmp .ne 9, 3) := by decide +kernel
theorem dX10_shift_29 : decode cX10_shift 29 = .ok (.aload_n 0, 1) := by decide +kernel
theorem dX10_shift_30 : decode cX10_shift 30 = .ok (.iconst 1, 1) := by decide +kernel
theorem dX10_shift_31 : decode cX10_shift 31 = .ok (.invokevirtual 197, 3) := by decide +kernel
theorem dX10_shift_34 : decode cX10_shift 34 = .ok (.ireturn, 1) := by decide +kernel
theorem dX10_shift_35 : decode cX10_shift 35 = .ok (.iload 4, 2) := by decide +kernel
theorem dX10_shift_37 : decode cX10_shift 37 = .ok (.iconst 1, 1) := by decide +kernel
theorem dX10_shift_38 : decode cX10_shift 38 = .ok (.if_icmp .lt 10, 3) := by decide +kernel
theorem dX10_shift_41 : decode cX10_shift 41 = .ok (.iload 4, 2) := by decide +kernel
theorem dX10_shift_43 : decode cX10_shift 43 = .ok (.bipush 60, 2) := by decide +kernel
theorem dX10_shift_45 : decode cX10_shift 45 = .ok (.if_icmp .le 9, 3) := by decide +kernel
theorem dX10_shift_48 : decode cX10_shift 48 = .ok (.aload_n 0, 1) := by decide +kernel
theorem dX10_shift_49 : decode cX10_shift 49 = .ok (.iconst 2, 1) := by decide +kernel
theorem dX10_shift_50 : decode cX10_shift 50 = .ok (.invokevirtual 197, 3) := by decide +kernel
theorem dX10_shift_53 : decode cX10_shift 53 = .ok (.ireturn, 1) := by decide +kernel
theorem dX10_shift_54 : decode cX10_shift 54 = .ok (.aload_n 0, 1) := by decide +kernel
theorem dX10_shift_55 : decode cX10_shift 55 = .ok (.getfield 25, 3) := by decide +kernel
theorem dX10_shift_58 : decode cX10_shift 58 = .ok (.getfield 294, 3) := by decide +kernel
theorem dX10_shift_61 : decode cX10_shift 61 = .ok (.iconst 4, 1) := by decide +kernel
theorem dX10_shift_62 : decode cX10_shift 62 = .ok (.iload_n 1, 1) := by decide +kernel
theorem dX10_shift_63 : decode cX10_shift 63 = .ok (.imul, 1) := by decide +kernel
theorem dX10_shift_64 : decode cX10_shift 64 = .ok (.iload_n 2, 1) := by decide +kernel
theorem dX10_shift_65 : decode cX10_shift 65 = .ok (.iadd, 1) := by decide +kernel
theorem dX10_shift_66 : decode cX10_shift 66 = .ok (.iaload, 1) := by decide +kernel
theorem dX10_shift_67 : decode cX10_shift 67 = .ok (.iload 4, 2) := by decide +kernel
theorem dX10_shift_69 : decode cX10_shift 69 = .ok (.if_icmp .ge 9, 3) := by decide +kernel
theorem dX10_shift_72 : decode cX10_shift 72 = .ok (.aload_n 0, 1) := by decide +kernel
theorem dX10_shift_73 : decode cX10_shift 73 = .ok (.iconst 5, 1) := by decide +kernel
theorem dX10_shift_74 : decode cX10_shift 74 = .ok (.invokevirtual 197, 3) := by decide +kernel
theorem dX10_shift_77 : decode cX10_shift 77 = .ok (.ireturn, 1) := by decide +kernel
theorem dX10_shift_78 : decode cX10_shift 78 = .ok (.aload_n 0, 1) := by decide +kernel
theorem dX10_shift_79 : decode cX10_shift 79 = .ok (.getfield 78, 3) := by decide +kernel
theorem dX10_shift_82 : decode cX10_shift 82 = .ok (.iconst 3, 1) := by decide +kernel
theorem dX10_shift_83 : decode cX10_shift 83 = .ok (.iload_n 1, 1) := by decide +kernel
theorem dX10_shift_84 : decode cX10_shift 84 = .ok (.invokevirtual 275, 3) := by decide +kernel
theorem dX10_shift_87 : decode cX10_shift 87 = .ok (.aload_n 0, 1) := by decide +kernel
theorem dX10_shift_88 : decode cX10_shift 88 = .ok (.getfield 78, 3) := by decide +kernel
theorem dX10_shift_91 : decode cX10_shift 91 = .ok (.iload_n 2, 1) := by decide +kernel
theorem dX10_shift_92 : decode cX10_shift 92 = .ok (.iload_n 3, 1) := by decide +kernel
theorem dX10_shift_93 : decode cX10_shift 93 = .ok (.iload 4, 2) := by decide +kernel
theorem dX10_shift_95 : decode cX10_shift 95 = .ok (.invokevirtual 297, 3) := by decide +kernel
theorem dX10_shift_98 : decode cX10_shift 98 = .ok (.aload_n 0, 1) := by decide +kernel
theorem dX10_shift_99 : decode cX10_shift 99 = .ok (.getfield 25, 3) := by decide +kernel
theorem dX10_shift_102 : decode cX10_shift 102 = .ok (.iconst 4, 1) := by decide +kernel
theorem dX10_shift_103 : decode cX10_shift 103 = .ok (.iload_n 1, 1) := by decide +kernel
theorem dX10_shift_104 : decode cX10_shift 104 = .ok (.imul, 1) := by decide +kernel
theorem dX10_shift_105 : decode cX10_shift 105 = .ok (.iload_n 2, 1) := by decide +kernel
theorem dX10_shift_106 : decode cX10_shift 106 = .ok (.iadd, 1) := by decide +kernel
theorem dX10_shift_107 : decode cX10_shift 107 = .ok (.iconst 4, 1) := by decide +kernel
theorem dX10_shift_108 : decode cX10_shift 108 = .ok (.iload_n 1, 1) := by decide +kernel
theorem dX10_shift_109 : decode cX10_shift 109 = .ok (.imul, 1) := by decide +kernel
theorem dX10_shift_110 : decode cX10_shift 110 = .ok (.iload_n 3, 1) := by decide +kernel
theorem dX10_shift_111 : decode cX10_shift 111 = .ok (.iadd, 1) := by decide +kernel
theorem dX10_shift_112 : decode cX10_shift 112 = .ok (.iload 4, 2) := by decide +kernel
theorem dX10_shift_114 : decode cX10_shift 114 = .ok (.invokevirtual 301, 3) := by decide +kernel
theorem dX10_shift_117 : decode cX10_shift 117 = .ok (.aload_n 0, 1) := by decide +kernel
theorem dX10_shift_118 : decode cX10_shift 118 = .ok (.invokevirtual 203, 3) := by decide +kernel
theorem dX10_shift_121 : decode cX10_shift 121 = .ok (.ireturn, 1) := by decide +kernel
set_option maxRecDepth 20000 in
theorem ggX10_undo_X4_takeBack : GoodIn wsX10_undo wsX4_takeBack := goodIn_r _ [6, 7, 8, 9, 10, 11, 12, 13, 14, 15, 16, 17, 18, 19, 20, 21, 22, 23, 24, 25, 26, 27, 28, 29, 30, 31, 32, 57, 58, 59, 60, 61, 62, 63, 64, 65, 66, 67, 68, 69, 70, 71] (by decide +kernel) (by decide +kernel)
set_option maxRecDepth 20000 in
theorem gX10_undo_X4_takeBack : GoodIn wsX10_undo (wsV RX10 304 RX4 yX4_takeBack wsX4_takeBack) := goodIn_app (goodIn_of _ (by decide +kernel)) ggX10_undo_X4_takeBack
set_option maxRecDepth 20000 in
theorem ggX10_undo_X10_denied : GoodIn wsX10_undo wsX10_denied := goodIn_r _ [42, 38, 43, 44, 45, 46, 47, 48, 49, 50, 51, 52, 53, 54, 55, 56] (by decide +kernel) (by decide +kernel)
set_option maxRecDepth 20000 in
theorem gX10_undo_X10_denied : GoodIn wsX10_undo (wsV RX10 197 RX10 yX10_denied wsX10_denied) := goodIn_app (goodIn_of _ (by decide +kernel)) ggX10_undo_X10_denied
theorem dX10_undo_0 : decode cX10_undo 0 = .ok (.aload_n 0, 1) := by decide +kernel
theorem dX10_undo_1 : decode cX10_undo 1 = .ok (.getfield 78, 3) := by decide +kernel
theorem dX10_undo_4 : decode cX10_undo 4 = .ok (.invokevirtual 304, 3) := by decide +kernel
theorem dX10_undo_7 : decode cX10_undo 7 = .ok (.ifCond .eq 10, 3) := by decide +kernel
theorem dX10_undo_10 : decode cX10_undo 10 = .ok (.aload_n 0, 1) := by decide +kernel
theorem dX10_undo_11 : decode cX10_undo 11 = .ok (.invokevirtual 203, 3) := by decide +kernel
theorem dX10_undo_14 : decode cX10_undo 14 = .ok (.goto 9, 3) := by decide +kernel
theorem dX10_undo_17 : decode cX10_undo 17 = .ok (.aload_n 0, 1) := by decide +kernel
theorem dX10_undo_18 : decode cX10_undo 18 = .ok (.bipush 6, 2) := by decide +kernel
theorem dX10_undo_20 : decode cX10_undo 20 = .ok (.invokevirtual 197, 3) := by decide +kernel
theorem dX10_undo_23 : decode cX10_undo 23 = .ok (.ireturn, 1) := by decide +kernel
set_option maxRecDepth 20000 in
theorem ggX10_redo_X4_makeAgain : GoodIn wsX10_redo wsX4_makeAgain := goodIn_r _ [6, 7, 8, 9, 10, 11, 12, 13, 14, 15, 16, 17, 18, 19, 20, 21, 22, 23, 24, 25, 26, 27, 28, 29, 54, 55, 56, 57, 58, 59, 60, 61, 62, 63, 64, 65, 66, 67, 68] (by decide +kernel) (by decide +kernel)
set_option maxRecDepth 20000 in
theorem gX10_redo_X4_makeAgain : GoodIn wsX10_redo (wsV RX10 307 RX4 yX4_makeAgain wsX4_makeAgain) := goodIn_app (goodIn_of _ (by decide +kernel)) ggX10_redo_X4_makeAgain
set_option maxRecDepth 20000 in
theorem ggX10_redo_X10_denied : GoodIn wsX10_redo wsX10_denied := goodIn_r _ [39, 35, 40, 41, 42, 43, 44, 45, 46, 47, 48, 49, 50, 51, 52, 53] (by decide +kernel) (by decide +kernel)
set_option maxRecDepth 20000 in
theorem gX10_redo_X10_denied : GoodIn wsX10_redo (wsV RX10 197 RX10 yX10_denied wsX10_denied) := goodIn_app (goodIn_of _ (by decide +kernel)) ggX10_redo_X10_denied
theorem dX10_redo_0 : decode cX10_redo 0 = .ok (.aload_n 0, 1) := by decide +kernel
theorem dX10_redo_1 : decode cX10_redo 1 = .ok (.getfield 78, 3) := by decide +kernel
theorem dX10_redo_4 : decode cX10_redo 4 = .ok (.invokevirtual 307, 3) := by decide +kernel
theorem dX10_redo_7 : decode cX10_redo 7 = .ok (.ifCond .eq 10, 3) := by decide +kernel
theorem dX10_redo_10 : decode cX10_redo 10 = .ok (.aload_n 0, 1) := by decide +kernel
theorem dX10_redo_11 : decode cX10_redo 11 = .ok (.invokevirtual 203, 3) := by decide +kernel
theorem dX10_redo_14 : decode cX10_redo 14 = .ok (.goto 9, 3) := by decide +kernel
theorem dX10_redo_17 : decode cX10_redo 17 = .ok (.aload_n 0, 1) := by decide +kernel
theorem dX10_redo_18 : decode cX10_redo 18 = .ok (.bipush 6, 2) := by decide +kernel
theorem dX10_redo_20 : decode cX10_redo 20 = .ok (.invokevirtual 197, 3) := by decide +kernel
theorem dX10_redo_23 : decode cX10_redo 23 = .ok (.ireturn, 1) := by decide +kernel
set_option maxRecDepth 20000 in
theorem ggX10_mark_X10_noBook : GoodIn wsX10_mark wsX10_noBook := goodIn_r _ [7, 8, 9, 40, 41, 42, 43, 44, 45, 46, 47, 48, 49, 50, 51, 52, 53, 61, 62, 63, 64, 65, 66, 67, 68] (by decide +kernel) (by decide +kernel)
set_option maxRecDepth 20000 in
theorem gX10_mark_X10_noBook : GoodIn wsX10_mark (wsV RX10 131 RX10 yX10_noBook wsX10_noBook) := goodIn_app (goodIn_of _ (by decide +kernel)) ggX10_mark_X10_noBook
set_option maxRecDepth 20000 in
theorem ggX10_mark_X10_refused : GoodIn wsX10_mark wsX10_refused := goodIn_r _ [13, 14, 40, 41, 42, 43, 44, 45, 46, 47, 48, 49, 50, 51, 52, 53] (by decide +kernel) (by decide +kernel)
set_option maxRecDepth 20000 in
theorem gX10_mark_X10_refused : GoodIn wsX10_mark (wsV RX10 90 RX10 yX10_refused wsX10_refused) := goodIn_app (goodIn_of _ (by decide +kernel)) ggX10_mark_X10_refused
theorem dX10_mark_0 : decode cX10_mark 0 = .ok (.aload_n 0, 1) := by decide +kernel
theorem dX10_mark_1 : decode cX10_mark 1 = .ok (.invokevirtual 131, 3) := by decide +kernel
theorem dX10_mark_4 : decode cX10_mark 4 = .ok (.ifCond .eq 9, 3) := by decide +kernel
theorem dX10_mark_7 : decode cX10_mark 7 = .ok (.aload_n 0, 1) := by decide +kernel
theorem dX10_mark_8 : decode cX10_mark 8 = .ok (.iconst 1, 1) := by decide +kernel
theorem dX10_mark_9 : decode cX10_mark 9 = .ok (.invokevirtual 90, 3) := by decide +kernel
theorem dX10_mark_12 : decode cX10_mark 12 = .ok (.ireturn, 1) := by decide +kernel
theorem dX10_mark_13 : decode cX10_mark 13 = .ok (.aload_n 0, 1) := by decide +kernel
theorem dX10_mark_14 : decode cX10_mark 14 = .ok (.getfield 78, 3) := by decide +kernel
theorem dX10_mark_17 : decode cX10_mark 17 = .ok (.getfield 310, 3) := by decide +kernel
theorem dX10_mark_20 : decode cX10_mark 20 = .ok (.iconst 4, 1) := by decide +kernel
theorem dX10_mark_21 : decode cX10_mark 21 = .ok (.if_icmp .lt 9, 3) := by decide +kernel
theorem dX10_mark_24 : decode cX10_mark 24 = .ok (.aload_n 0, 1) := by decide +kernel
theorem dX10_mark_25 : decode cX10_mark 25 = .ok (.iconst 3, 1) := by decide +kernel
theorem dX10_mark_26 : decode cX10_mark 26 = .ok (.invokevirtual 90, 3) := by decide +kernel
theorem dX10_mark_29 : decode cX10_mark 29 = .ok (.ireturn, 1) := by decide +kernel
theorem dX10_mark_30 : decode cX10_mark 30 = .ok (.aload_n 0, 1) := by decide +kernel
theorem dX10_mark_31 : decode cX10_mark 31 = .ok (.aload_n 0, 1) := by decide +kernel
theorem dX10_mark_32 : decode cX10_mark 32 = .ok (.getfield 78, 3) := by decide +kernel
theorem dX10_mark_35 : decode cX10_mark 35 = .ok (.invokevirtual 313, 3) := by decide +kernel
theorem dX10_mark_38 : decode cX10_mark 38 = .ok (.invokevirtual 125, 3) := by decide +kernel
theorem dX10_mark_41 : decode cX10_mark 41 = .ok (.ireturn, 1) := by decide +kernel
set_option maxRecDepth 20000 in
theorem ggX10_back_X4_goBack : GoodIn wsX10_back wsX4_goBack := goodIn_r _ [6, 7, 8, 9, 10, 11, 12, 13, 14, 15, 16, 17, 18, 19, 20, 21, 22, 23, 24, 25, 26, 27, 28, 29, 30, 55, 56, 57, 58, 59, 60, 61, 62, 63, 64, 65, 66, 67, 68, 69] (by decide +kernel) (by decide +kernel)
set_option maxRecDepth 20000 in
theorem gX10_back_X4_goBack : GoodIn wsX10_back (wsV RX10 316 RX4 yX4_goBack wsX4_goBack) := goodIn_app (goodIn_of _ (by decide +kernel)) ggX10_back_X4_goBack
set_option maxRecDepth 20000 in
theorem ggX10_back_X10_denied : GoodIn wsX10_back wsX10_denied := goodIn_r _ [40, 36, 41, 42, 43, 44, 45, 46, 47, 48, 49, 50, 51, 52, 53, 54] (by decide +kernel) (by decide +kernel)
set_option maxRecDepth 20000 in
theorem gX10_back_X10_denied : GoodIn wsX10_back (wsV RX10 197 RX10 yX10_denied wsX10_denied) := goodIn_app (goodIn_of _ (by decide +kernel)) ggX10_back_X10_denied
theorem dX10_back_0 : decode cX10_back 0 = .ok (.aload_n 0, 1) := by decide +kernel
theorem dX10_back_1 : decode cX10_back 1 = .ok (.getfield 78, 3) := by decide +kernel
theorem dX10_back_4 : decode cX10_back 4 = .ok (.iload_n 1, 1) := by decide +kernel
theorem dX10_back_5 : decode cX10_back 5 = .ok (.invokevirtual 316, 3) := by decide +kernel
theorem dX10_back_8 : decode cX10_back 8 = .ok (.ifCond .eq 10, 3) := by decide +kernel
theorem dX10_back_11 : decode cX10_back 11 = .ok (.aload_n 0, 1) := by decide +kernel
theorem dX10_back_12 : decode cX10_back 12 = .ok (.invokevirtual 203, 3) := by decide +kernel
theorem dX10_back_15 : decode cX10_back 15 = .ok (.goto 8, 3) := by decide +kernel
theorem dX10_back_18 : decode cX10_back 18 = .ok (.aload_n 0, 1) := by decide +kernel
theorem dX10_back_19 : decode cX10_back 19 = .ok (.iconst 1, 1) := by decide +kernel
theorem dX10_back_20 : decode cX10_back 20 = .ok (.invokevirtual 197, 3) := by decide +kernel
theorem dX10_back_23 : decode cX10_back 23 = .ok (.ireturn, 1) := by decide +kernel
set_option maxRecDepth 20000 in
theorem ggX10_act_X10_refused : GoodIn wsX10_act wsX10_refused := goodIn_r _ [8, 9, 14, 15, 16, 17, 18, 19, 20, 21, 22, 23, 24, 25, 26, 27] (by decide +kernel) (by decide +kernel)
set_option maxRecDepth 20000 in
theorem gX10_act_X10_refused : GoodIn wsX10_act (wsV RX10 90 RX10 yX10_refused wsX10_refused) := goodIn_app (goodIn_of _ (by decide +kernel)) ggX10_act_X10_refused
theorem dX10_act_0 : decode cX10_act 0 = .ok (.iload_n 1, 1) := by decide +kernel
theorem dX10_act_1 : decode cX10_act 1 = .ok (.ifCond .lt 23, 3) := by decide +kernel
theorem dX10_act_4 : decode cX10_act 4 = .ok (.iload_n 1, 1) := by decide +kernel
theorem dX10_act_5 : decode cX10_act 5 = .ok (.aload_n 0, 1) := by decide +kernel
theorem dX10_act_6 : decode cX10_act 6 = .ok (.getfield 78, 3) := by decide +kernel
theorem dX10_act_9 : decode cX10_act 9 = .ok (.getfield 319, 3) := by decide +kernel
theorem dX10_act_12 : decode cX10_act 12 = .ok (.if_icmp .ge 12, 3) := by decide +kernel
theorem dX10_act_15 : decode cX10_act 15 = .ok (.iload_n 2, 1) := by decide +kernel
theorem dX10_act_16 : decode cX10_act 16 = .ok (.ifCond .lt 8, 3) := by decide +kernel
theorem dX10_act_19 : decode cX10_act 19 = .ok (.iload_n 2, 1) := by decide +kernel
theorem dX10_act_20 : decode cX10_act 20 = .ok (.iconst 5, 1) := by decide +kernel
theorem dX10_act_21 : decode cX10_act 21 = .ok (.if_icmp .lt 9, 3) := by decide +kernel
theorem dX10_act_24 : decode cX10_act 24 = .ok (.aload_n 0, 1) := by decide +kernel
theorem dX10_act_25 : decode cX10_act 25 = .ok (.iconst 1, 1) := by decide +kernel
theorem dX10_act_26 : decode cX10_act 26 = .ok (.invokevirtual 90, 3) := by decide +kernel
theorem dX10_act_29 : decode cX10_act 29 = .ok (.ireturn, 1) := by decide +kernel
theorem dX10_act_30 : decode cX10_act 30 = .ok (.aload_n 0, 1) := by decide +kernel
theorem dX10_act_31 : decode cX10_act 31 = .ok (.aload_n 0, 1) := by decide +kernel
theorem dX10_act_32 : decode cX10_act 32 = .ok (.getfield 78, 3) := by decide +kernel
theorem dX10_act_35 : decode cX10_act 35 = .ok (.getfield 322, 3) := by decide +kernel
theorem dX10_act_38 : decode cX10_act 38 = .ok (.iload_n 1, 1) := by decide +kernel
theorem dX10_act_39 : decode cX10_act 39 = .ok (.aaload, 1) := by decide +kernel
theorem dX10_act_40 : decode cX10_act 40 = .ok (.iload_n 2, 1) := by decide +kernel
theorem dX10_act_41 : decode cX10_act 41 = .ok (.iaload, 1) := by decide +kernel
theorem dX10_act_42 : decode cX10_act 42 = .ok (.invokevirtual 125, 3) := by decide +kernel
theorem dX10_act_45 : decode cX10_act 45 = .ok (.ireturn, 1) := by decide +kernel
set_option maxRecDepth 20000 in
theorem ggX10_times_X8_hasOutcome : GoodIn wsX10_times wsX8_hasOutcome := goodIn_r _ [7, 8, 9, 10, 6, 11, 12, 13, 14, 15, 16, 17, 42, 43, 44, 45, 46, 47, 48, 49] (by decide +kernel) (by decide +kernel)
set_option maxRecDepth 20000 in
theorem gX10_times_X8_hasOutcome : GoodIn wsX10_times (wsV RX10 156 RX8 yX8_hasOutcome wsX8_hasOutcome) := goodIn_app (goodIn_of _ (by decide +kernel)) ggX10_times_X8_hasOutcome
set_option maxRecDepth 20000 in
theorem ggX10_times_X10_refused : GoodIn wsX10_times wsX10_refused := goodIn_r _ [22, 23, 28, 29, 30, 31, 32, 33, 34, 35, 36, 37, 38, 39, 40, 41] (by decide +kernel) (by decide +kernel)
set_option maxRecDepth 20000 in
theorem gX10_times_X10_refused : GoodIn wsX10_times (wsV RX10 90 RX10 yX10_refused wsX10_refused) := goodIn_app (goodIn_of _ (by decide +kernel)) ggX10_times_X10_refused
theorem dX10_times_0 : decode cX10_times 0 = .ok (.aload_n 0, 1) := by decide +kernel
theorem dX10_times_1 : decode cX10_times 1 = .ok (.getfield 25, 3) := by decide +kernel
theorem dX10_times_4 : decode cX10_times 4 = .ok (.iload_n 1, 1) := by decide +kernel
theorem dX10_times_5 : decode cX10_times 5 = .ok (.iload_n 2, 1) := by decide +kernel
theorem dX10_times_6 : decode cX10_times 6 = .ok (.invokevirtual 156, 3) := by decide +kernel
theorem dX10_times_9 : decode cX10_times 9 = .ok (.ifCond .ne 9, 3) := by decide +kernel
theorem dX10_times_12 : decode cX10_times 12 = .ok (.aload_n 0, 1) := by decide +kernel
theorem dX10_times_13 : decode cX10_times 13 = .ok (.iconst 1, 1) := by decide +kernel
theorem dX10_times_14 : decode cX10_times 14 = .ok (.invokevirtual 90, 3) := by decide +kernel
theorem dX10_times_17 : decode cX10_times 17 = .ok (.ireturn, 1) := by decide +kernel
theorem dX10_times_18 : decode cX10_times 18 = .ok (.aload_n 0, 1) := by decide +kernel
theorem dX10_times_19 : decode cX10_times 19 = .ok (.aload_n 0, 1) := by decide +kernel
theorem dX10_times_20 : decode cX10_times 20 = .ok (.getfield 25, 3) := by decide +kernel
theorem dX10_times_23 : decode cX10_times 23 = .ok (.getfield 294, 3) := by decide +kernel
theorem dX10_times_26 : decode cX10_times 26 = .ok (.iconst 4, 1) := by decide +kernel
theorem dX10_times_27 : decode cX10_times 27 = .ok (.iload_n 1, 1) := by decide +kernel
theorem dX10_times_28 : decode cX10_times 28 = .ok (.imul, 1) := by decide +kernel
theorem dX10_times_29 : decode cX10_times 29 = .ok (.iload_n 2, 1) := by decide +kernel
theorem dX10_times_30 : decode cX10_times 30 = .ok (.iadd, 1) := by decide +kernel
theorem dX10_times_31 : decode cX10_times 31 = .ok (.iaload, 1) := by decide +kernel
theorem dX10_times_32 : decode cX10_times 32 = .ok (.invokevirtual 125, 3) := by decide +kernel
theorem dX10_times_35 : decode cX10_times 35 = .ok (.ireturn, 1) := by decide +kernel
set_option maxRecDepth 20000 in
theorem ggX10_look_X8_hasSet : GoodIn wsX10_look wsX8_hasSet := goodIn_r _ [8, 9, 34, 35, 36, 37, 38, 39, 40, 41] (by decide +kernel) (by decide +kernel)
set_option maxRecDepth 20000 in
theorem gX10_look_X8_hasSet : GoodIn wsX10_look (wsV RX10 282 RX8 yX8_hasSet wsX8_hasSet) := goodIn_app (goodIn_of _ (by decide +kernel)) ggX10_look_X8_hasSet
set_option maxRecDepth 20000 in
theorem ggX10_look_X10_refused : GoodIn wsX10_look wsX10_refused := goodIn_r _ [14, 15, 20, 21, 22, 23, 24, 25, 26, 27, 28, 29, 30, 31, 32, 33] (by decide +kernel) (by decide +kernel)
set_option maxRecDepth 20000 in
theorem gX10_look_X10_refused : GoodIn wsX10_look (wsV RX10 90 RX10 yX10_refused wsX10_refused) := goodIn_app (goodIn_of _ (by decide +kernel)) ggX10_look_X10_refused
theorem dX10_look_0 : decode cX10_look 0 = .ok (.aload_n 0, 1) := by decide +kernel
theorem dX10_look_1 : decode cX10_look 1 = .ok (.getfield 25, 3) := by decide +kernel
theorem dX10_look_4 : decode cX10_look 4 = .ok (.iload_n 1, 1) := by decide +kernel
theorem dX10_look_5 : decode cX10_look 5 = .ok (.invokevirtual 282, 3) := by decide +kernel
theorem dX10_look_8 : decode cX10_look 8 = .ok (.ifCond .ne 9, 3) := by decide +kernel
theorem dX10_look_11 : decode cX10_look 11 = .ok (.aload_n 0, 1) := by decide +kernel
theorem dX10_look_12 : decode cX10_look 12 = .ok (.iconst 1, 1) := by decide +kernel
theorem dX10_look_13 : decode cX10_look 13 = .ok (.invokevirtual 90, 3) := by decide +kernel
theorem dX10_look_16 : decode cX10_look 16 = .ok (.ireturn, 1) := by decide +kernel
theorem dX10_look_17 : decode cX10_look 17 = .ok (.aload_n 0, 1) := by decide +kernel
theorem dX10_look_18 : decode cX10_look 18 = .ok (.iload_n 2, 1) := by decide +kernel
theorem dX10_look_19 : decode cX10_look 19 = .ok (.ifCond .eq 15, 3) := by decide +kernel
theorem dX10_look_22 : decode cX10_look 22 = .ok (.aload_n 0, 1) := by decide +kernel
theorem dX10_look_23 : decode cX10_look 23 = .ok (.getfield 25, 3) := by decide +kernel
theorem dX10_look_26 : decode cX10_look 26 = .ok (.getfield 326, 3) := by decide +kernel
theorem dX10_look_29 : decode cX10_look 29 = .ok (.iload_n 1, 1) := by decide +kernel
theorem dX10_look_30 : decode cX10_look 30 = .ok (.iaload, 1) := by decide +kernel
theorem dX10_look_31 : decode cX10_look 31 = .ok (.goto 12, 3) := by decide +kernel
theorem dX10_look_34 : decode cX10_look 34 = .ok (.aload_n 0, 1) := by decide +kernel
theorem dX10_look_35 : decode cX10_look 35 = .ok (.getfield 25, 3) := by decide +kernel
theorem dX10_look_38 : decode cX10_look 38 = .ok (.getfield 329, 3) := by decide +kernel
theorem dX10_look_41 : decode cX10_look 41 = .ok (.iload_n 1, 1) := by decide +kernel
theorem dX10_look_42 : decode cX10_look 42 = .ok (.iaload, 1) := by decide +kernel
theorem dX10_look_43 : decode cX10_look 43 = .ok (.invokevirtual 125, 3) := by decide +kernel
theorem dX10_look_46 : decode cX10_look 46 = .ok (.ireturn, 1) := by decide +kernel
set_option maxRecDepth 20000 in
theorem ggX10_coins_X8_hasOutcome : GoodIn wsX10_coins wsX8_hasOutcome := goodIn_r _ [7, 8, 9, 10, 6, 11, 12, 13, 14, 15, 16, 17, 42, 43, 44, 45, 46, 47, 48, 49] (by decide +kernel) (by decide +kernel)
set_option maxRecDepth 20000 in
theorem gX10_coins_X8_hasOutcome : GoodIn wsX10_coins (wsV RX10 156 RX8 yX8_hasOutcome wsX8_hasOutcome) := goodIn_app (goodIn_of _ (by decide +kernel)) ggX10_coins_X8_hasOutcome
set_option maxRecDepth 20000 in
theorem ggX10_coins_X10_refused : GoodIn wsX10_coins wsX10_refused := goodIn_r _ [22, 23, 28, 29, 30, 31, 32, 33, 34, 35, 36, 37, 38, 39, 40, 41] (by decide +kernel) (by decide +kernel)
set_option maxRecDepth 20000 in
theorem gX10_coins_X10_refused : GoodIn wsX10_coins (wsV RX10 90 RX10 yX10_refused wsX10_refused) := goodIn_app (goodIn_of _ (by decide +kernel)) ggX10_coins_X10_refused
theorem dX10_coins_0 : decode cX10_coins 0 = .ok (.aload_n 0, 1) := by decide +kernel
theorem dX10_coins_1 : decode cX10_coins 1 = .ok (.getfield 25, 3) := by decide +kernel
theorem dX10_coins_4 : decode cX10_coins 4 = .ok (.iload_n 1, 1) := by decide +kernel
theorem dX10_coins_5 : decode cX10_coins 5 = .ok (.iload_n 2, 1) := by decide +kernel
theorem dX10_coins_6 : decode cX10_coins 6 = .ok (.invokevirtual 156, 3) := by decide +kernel
theorem dX10_coins_9 : decode cX10_coins 9 = .ok (.ifCond .ne 9, 3) := by decide +kernel
theorem dX10_coins_12 : decode cX10_coins 12 = .ok (.aload_n 0, 1) := by decide +kernel
theorem dX10_coins_13 : decode cX10_coins 13 = .ok (.iconst 1, 1) := by decide +kernel
theorem dX10_coins_14 : decode cX10_coins 14 = .ok (.invokevirtual 90, 3) := by decide +kernel
theorem dX10_coins_17 : decode cX10_coins 17 = .ok (.ireturn, 1) := by decide +kernel
theorem dX10_coins_18 : decode cX10_coins 18 = .ok (.aload_n 0, 1) := by decide +kernel
theorem dX10_coins_19 : decode cX10_coins 19 = .ok (.aload_n 0, 1) := by decide +kernel
theorem dX10_coins_20 : decode cX10_coins 20 = .ok (.getfield 25, 3) := by decide +kernel
theorem dX10_coins_23 : decode cX10_coins 23 = .ok (.getfield 200, 3) := by decide +kernel
theorem dX10_coins_26 : decode cX10_coins 26 = .ok (.iconst 4, 1) := by decide +kernel
theorem dX10_coins_27 : decode cX10_coins 27 = .ok (.iload_n 1, 1) := by decide +kernel
theorem dX10_coins_28 : decode cX10_coins 28 = .ok (.imul, 1) := by decide +kernel
theorem dX10_coins_29 : decode cX10_coins 29 = .ok (.iload_n 2, 1) := by decide +kernel
theorem dX10_coins_30 : decode cX10_coins 30 = .ok (.iadd, 1) := by decide +kernel
theorem dX10_coins_31 : decode cX10_coins 31 = .ok (.iaload, 1) := by decide +kernel
theorem dX10_coins_32 : decode cX10_coins 32 = .ok (.invokevirtual 125, 3) := by decide +kernel
theorem dX10_coins_35 : decode cX10_coins 35 = .ok (.ireturn, 1) := by decide +kernel
theorem dX10_size_0 : decode cX10_size 0 = .ok (.iload_n 1, 1) := by decide +kernel
theorem dX10_size_1 : decode cX10_size 1 = .ok (.tableswitch 152 0 10 #[59, 67, 75, 83, 91, 99, 107, 115, 123, 139, 147], 59) := by decide +kernel
theorem dX10_size_60 : decode cX10_size 60 = .ok (.aload_n 0, 1) := by decide +kernel
theorem dX10_size_61 : decode cX10_size 61 = .ok (.getfield 25, 3) := by decide +kernel
theorem dX10_size_64 : decode cX10_size 64 = .ok (.getfield 122, 3) := by decide +kernel
theorem dX10_size_67 : decode cX10_size 67 = .ok (.ireturn, 1) := by decide +kernel
theorem dX10_size_68 : decode cX10_size 68 = .ok (.aload_n 0, 1) := by decide +kernel
theorem dX10_size_69 : decode cX10_size 69 = .ok (.getfield 57, 3) := by decide +kernel
theorem dX10_size_72 : decode cX10_size 72 = .ok (.getfield 225, 3) := by decide +kernel
theorem dX10_size_75 : decode cX10_size 75 = .ok (.ireturn, 1) := by decide +kernel
theorem dX10_size_76 : decode cX10_size 76 = .ok (.aload_n 0, 1) := by decide +kernel
theorem dX10_size_77 : decode cX10_size 77 = .ok (.getfield 25, 3) := by decide +kernel
theorem dX10_size_80 : decode cX10_size 80 = .ok (.getfield 348, 3) := by decide +kernel
theorem dX10_size_83 : decode cX10_size 83 = .ok (.ireturn, 1) := by decide +kernel
theorem dX10_size_84 : decode cX10_size 84 = .ok (.aload_n 0, 1) := by decide +kernel
theorem dX10_size_85 : decode cX10_size 85 = .ok (.getfield 57, 3) := by decide +kernel
theorem dX10_size_88 : decode cX10_size 88 = .ok (.getfield 234, 3) := by decide +kernel
theorem dX10_size_91 : decode cX10_size 91 = .ok (.ireturn, 1) := by decide +kernel
theorem dX10_size_92 : decode cX10_size 92 = .ok (.aload_n 0, 1) := by decide +kernel
theorem dX10_size_93 : decode cX10_size 93 = .ok (.getfield 64, 3) := by decide +kernel
theorem dX10_size_96 : decode cX10_size 96 = .ok (.getfield 351, 3) := by decide +kernel
theorem dX10_size_99 : decode cX10_size 99 = .ok (.ireturn, 1) := by decide +kernel
theorem dX10_size_100 : decode cX10_size 100 = .ok (.aload_n 0, 1) := by decide +kernel
theorem dX10_size_101 : decode cX10_size 101 = .ok (.getfield 71, 3) := by decide +kernel
theorem dX10_size_104 : decode cX10_size 104 = .ok (.getfield 354, 3) := by decide +kernel
theorem dX10_size_107 : decode cX10_size 107 = .ok (.ireturn, 1) := by decide +kernel
theorem dX10_size_108 : decode cX10_size 108 = .ok (.aload_n 0, 1) := by decide +kernel
theorem dX10_size_109 : decode cX10_size 109 = .ok (.getfield 25, 3) := by decide +kernel
theorem dX10_size_112 : decode cX10_size 112 = .ok (.getfield 215, 3) := by decide +kernel
theorem dX10_size_115 : decode cX10_size 115 = .ok (.ireturn, 1) := by decide +kernel
theorem dX10_size_116 : decode cX10_size 116 = .ok (.aload_n 0, 1) := by decide +kernel
theorem dX10_size_117 : decode cX10_size 117 = .ok (.getfield 78, 3) := by decide +kernel
theorem dX10_size_120 : decode cX10_size 120 = .ok (.getfield 319, 3) := by decide +kernel
theorem dX10_size_123 : decode cX10_size 123 = .ok (.ireturn, 1) := by decide +kernel
theorem dX10_size_124 : decode cX10_size 124 = .ok (.aload_n 0, 1) := by decide +kernel
theorem dX10_size_125 : decode cX10_size 125 = .ok (.getfield 78, 3) := by decide +kernel
theorem dX10_size_128 : decode cX10_size 128 = .ok (.getfield 357, 3) := by decide +kernel
theorem dX10_size_131 : decode cX10_size 131 = .ok (.aload_n 0, 1) := by decide +kernel
theorem dX10_size_132 : decode cX10_size 132 = .ok (.getfield 78, 3) := by decide +kernel
theorem dX10_size_135 : decode cX10_size 135 = .ok (.getfield 319, 3) := by decide +kernel
theorem dX10_size_138 : decode cX10_size 138 = .ok (.isub, 1) := by decide +kernel
theorem dX10_size_139 : decode cX10_size 139 = .ok (.ireturn, 1) := by decide +kernel
theorem dX10_size_140 : decode cX10_size 140 = .ok (.aload_n 0, 1) := by decide +kernel
theorem dX10_size_141 : decode cX10_size 141 = .ok (.getfield 78, 3) := by decide +kernel
theorem dX10_size_144 : decode cX10_size 144 = .ok (.getfield 310, 3) := by decide +kernel
theorem dX10_size_147 : decode cX10_size 147 = .ok (.ireturn, 1) := by decide +kernel
theorem dX10_size_148 : decode cX10_size 148 = .ok (.aload_n 0, 1) := by decide +kernel
theorem dX10_size_149 : decode cX10_size 149 = .ok (.getfield 82, 3) := by decide +kernel
theorem dX10_size_152 : decode cX10_size 152 = .ok (.ireturn, 1) := by decide +kernel
theorem dX10_size_153 : decode cX10_size 153 = .ok (.iconst (-1), 1) := by decide +kernel
theorem dX10_size_154 : decode cX10_size 154 = .ok (.ireturn, 1) := by decide +kernel
theorem dX10_trouble_0 : decode cX10_trouble 0 = .ok (.aload_n 0, 1) := by decide +kernel
theorem dX10_trouble_1 : decode cX10_trouble 1 = .ok (.getfield 128, 3) := by decide +kernel
theorem dX10_trouble_4 : decode cX10_trouble 4 = .ok (.ireturn, 1) := by decide +kernel
theorem dX10_put_0 : decode cX10_put 0 = .ok (.bipush 24, 2) := by decide +kernel
theorem dX10_put_2 : decode cX10_put 2 = .ok (.istore_n 2, 1) := by decide +kernel
theorem dX10_put_3 : decode cX10_put 3 = .ok (.iload_n 2, 1) := by decide +kernel
theorem dX10_put_4 : decode cX10_put 4 = .ok (.ifCond .lt 35, 3) := by decide +kernel
theorem dX10_put_7 : decode cX10_put 7 = .ok (.aload_n 0, 1) := by decide +kernel
theorem dX10_put_8 : decode cX10_put 8 = .ok (.getfield 9, 3) := by decide +kernel
theorem dX10_put_11 : decode cX10_put 11 = .ok (.aload_n 0, 1) := by decide +kernel
theorem dX10_put_12 : decode cX10_put 12 = .ok (.getfield 82, 3) := by decide +kernel
theorem dX10_put_15 : decode cX10_put 15 = .ok (.iload_n 1, 1) := by decide +kernel
theorem dX10_put_16 : decode cX10_put 16 = .ok (.iload_n 2, 1) := by decide +kernel
theorem dX10_put_17 : decode cX10_put 17 = .ok (.iushr, 1) := by decide +kernel
theorem dX10_put_18 : decode cX10_put 18 = .ok (.sipush 255, 3) := by decide +kernel
theorem dX10_put_21 : decode cX10_put 21 = .ok (.iand, 1) := by decide +kernel
theorem dX10_put_22 : decode cX10_put 22 = .ok (.iastore, 1) := by decide +kernel
theorem dX10_put_23 : decode cX10_put 23 = .ok (.aload_n 0, 1) := by decide +kernel
theorem dX10_put_24 : decode cX10_put 24 = .ok (.dup, 1) := by decide +kernel
theorem dX10_put_25 : decode cX10_put 25 = .ok (.getfield 82, 3) := by decide +kernel
theorem dX10_put_28 : decode cX10_put 28 = .ok (.iconst 1, 1) := by decide +kernel
theorem dX10_put_29 : decode cX10_put 29 = .ok (.iadd, 1) := by decide +kernel
theorem dX10_put_30 : decode cX10_put 30 = .ok (.putfield 82, 3) := by decide +kernel
theorem dX10_put_33 : decode cX10_put 33 = .ok (.iinc 2 (-8), 3) := by decide +kernel
theorem dX10_put_36 : decode cX10_put 36 = .ok (.goto (-33), 3) := by decide +kernel
theorem dX10_put_39 : decode cX10_put 39 = .ok (.return_, 1) := by decide +kernel
theorem dX10_noBook_0 : decode cX10_noBook 0 = .ok (.aload_n 0, 1) := by decide +kernel
theorem dX10_noBook_1 : decode cX10_noBook 1 = .ok (.getfield 25, 3) := by decide +kernel
theorem dX10_noBook_4 : decode cX10_noBook 4 = .ok (.getfield 215, 3) := by decide +kernel
theorem dX10_noBook_7 : decode cX10_noBook 7 = .ok (.ifCond .ne 7, 3) := by decide +kernel
theorem dX10_noBook_10 : decode cX10_noBook 10 = .ok (.iconst 1, 1) := by decide +kernel
theorem dX10_noBook_11 : decode cX10_noBook 11 = .ok (.goto 4, 3) := by decide +kernel
theorem dX10_noBook_14 : decode cX10_noBook 14 = .ok (.iconst 0, 1) := by decide +kernel
theorem dX10_noBook_15 : decode cX10_noBook 15 = .ok (.ireturn, 1) := by decide +kernel
theorem dX10_told_0 : decode cX10_told 0 = .ok (.aload_n 0, 1) := by decide +kernel
theorem dX10_told_1 : decode cX10_told 1 = .ok (.iconst 0, 1) := by decide +kernel
theorem dX10_told_2 : decode cX10_told 2 = .ok (.putfield 128, 3) := by decide +kernel
theorem dX10_told_5 : decode cX10_told 5 = .ok (.iload_n 1, 1) := by decide +kernel
theorem dX10_told_6 : decode cX10_told 6 = .ok (.ireturn, 1) := by decide +kernel
theorem dX10_refused_0 : decode cX10_refused 0 = .ok (.aload_n 0, 1) := by decide +kernel
theorem dX10_refused_1 : decode cX10_refused 1 = .ok (.iload_n 1, 1) := by decide +kernel
theorem dX10_refused_2 : decode cX10_refused 2 = .ok (.putfield 128, 3) := by decide +kernel
theorem dX10_refused_5 : decode cX10_refused 5 = .ok (.iconst (-1), 1) := by decide +kernel
theorem dX10_refused_6 : decode cX10_refused 6 = .ok (.ireturn, 1) := by decide +kernel
theorem dX10_done_0 : decode cX10_done 0 = .ok (.aload_n 0, 1) := by decide +kernel
theorem dX10_done_1 : decode cX10_done 1 = .ok (.iconst 0, 1) := by decide +kernel
theorem dX10_done_2 : decode cX10_done 2 = .ok (.putfield 128, 3) := by decide +kernel
theorem dX10_done_5 : decode cX10_done 5 = .ok (.iconst 1, 1) := by decide +kernel
theorem dX10_done_6 : decode cX10_done 6 = .ok (.ireturn, 1) := by decide +kernel
theorem dX10_denied_0 : decode cX10_denied 0 = .ok (.aload_n 0, 1) := by decide +kernel
theorem dX10_denied_1 : decode cX10_denied 1 = .ok (.iload_n 1, 1) := by decide +kernel
theorem dX10_denied_2 : decode cX10_denied 2 = .ok (.putfield 128, 3) := by decide +kernel
theorem dX10_denied_5 : decode cX10_denied 5 = .ok (.iconst 0, 1) := by decide +kernel
theorem dX10_denied_6 : decode cX10_denied 6 = .ok (.ireturn, 1) := by decide +kernel
theorem dX11_init_0 : decode cX11_init 0 = .ok (.aload_n 0, 1) := by decide +kernel
theorem dX11_init_1 : decode cX11_init 1 = .ok (.invokespecial 1, 3) := by decide +kernel
theorem dX11_init_4 : decode cX11_init 4 = .ok (.aload_n 0, 1) := by decide +kernel
theorem dX11_init_5 : decode cX11_init 5 = .ok (.sipush 900, 3) := by decide +kernel
theorem dX11_init_8 : decode cX11_init 8 = .ok (.newarray .int, 2) := by decide +kernel
theorem dX11_init_10 : decode cX11_init 10 = .ok (.putfield 7, 3) := by decide +kernel
theorem dX11_init_13 : decode cX11_init 13 = .ok (.aload_n 0, 1) := by decide +kernel
theorem dX11_init_14 : decode cX11_init 14 = .ok (.iconst (-1), 1) := by decide +kernel
theorem dX11_init_15 : decode cX11_init 15 = .ok (.putfield 13, 3) := by decide +kernel
theorem dX11_init_18 : decode cX11_init 18 = .ok (.aload_n 0, 1) := by decide +kernel
theorem dX11_init_19 : decode cX11_init 19 = .ok (.bipush 8, 2) := by decide +kernel
theorem dX11_init_21 : decode cX11_init 21 = .ok (.newarray .int, 2) := by decide +kernel
theorem dX11_init_23 : decode cX11_init 23 = .ok (.putfield 17, 3) := by decide +kernel
theorem dX11_init_26 : decode cX11_init 26 = .ok (.aload_n 0, 1) := by decide +kernel
theorem dX11_init_27 : decode cX11_init 27 = .ok (.sipush 346, 3) := by decide +kernel
theorem dX11_init_30 : decode cX11_init 30 = .ok (.newarray .int, 2) := by decide +kernel
theorem dX11_init_32 : decode cX11_init 32 = .ok (.putfield 20, 3) := by decide +kernel
theorem dX11_init_35 : decode cX11_init 35 = .ok (.aload_n 0, 1) := by decide +kernel
theorem dX11_init_36 : decode cX11_init 36 = .ok (.sipush 346, 3) := by decide +kernel
theorem dX11_init_39 : decode cX11_init 39 = .ok (.newarray .int, 2) := by decide +kernel
theorem dX11_init_41 : decode cX11_init 41 = .ok (.putfield 23, 3) := by decide +kernel
theorem dX11_init_44 : decode cX11_init 44 = .ok (.aload_n 0, 1) := by decide +kernel
theorem dX11_init_45 : decode cX11_init 45 = .ok (.bipush 32, 2) := by decide +kernel
theorem dX11_init_47 : decode cX11_init 47 = .ok (.newarray .int, 2) := by decide +kernel
theorem dX11_init_49 : decode cX11_init 49 = .ok (.putfield 26, 3) := by decide +kernel
theorem dX11_init_52 : decode cX11_init 52 = .ok (.aload_n 0, 1) := by decide +kernel
theorem dX11_init_53 : decode cX11_init 53 = .ok (.bipush 49, 2) := by decide +kernel
theorem dX11_init_55 : decode cX11_init 55 = .ok (.newarray .int, 2) := by decide +kernel
theorem dX11_init_57 : decode cX11_init 57 = .ok (.putfield 29, 3) := by decide +kernel
theorem dX11_init_60 : decode cX11_init 60 = .ok (.aload_n 0, 1) := by decide +kernel
theorem dX11_init_61 : decode cX11_init 61 = .ok (.sipush 980, 3) := by decide +kernel
theorem dX11_init_64 : decode cX11_init 64 = .ok (.newarray .int, 2) := by decide +kernel
theorem dX11_init_66 : decode cX11_init 66 = .ok (.putfield 32, 3) := by decide +kernel
theorem dX11_init_69 : decode cX11_init 69 = .ok (.aload_n 0, 1) := by decide +kernel
theorem dX11_init_70 : decode cX11_init 70 = .ok (.sipush 980, 3) := by decide +kernel
theorem dX11_init_73 : decode cX11_init 73 = .ok (.newarray .int, 2) := by decide +kernel
theorem dX11_init_75 : decode cX11_init 75 = .ok (.putfield 35, 3) := by decide +kernel
theorem dX11_init_78 : decode cX11_init 78 = .ok (.aload_n 0, 1) := by decide +kernel
theorem dX11_init_79 : decode cX11_init 79 = .ok (.sipush 196, 3) := by decide +kernel
theorem dX11_init_82 : decode cX11_init 82 = .ok (.newarray .int, 2) := by decide +kernel
theorem dX11_init_84 : decode cX11_init 84 = .ok (.putfield 38, 3) := by decide +kernel
theorem dX11_init_87 : decode cX11_init 87 = .ok (.aload_n 0, 1) := by decide +kernel
theorem dX11_init_88 : decode cX11_init 88 = .ok (.bipush 100, 2) := by decide +kernel
theorem dX11_init_90 : decode cX11_init 90 = .ok (.newarray .int, 2) := by decide +kernel
theorem dX11_init_92 : decode cX11_init 92 = .ok (.putfield 41, 3) := by decide +kernel
theorem dX11_init_95 : decode cX11_init 95 = .ok (.aload_n 0, 1) := by decide +kernel
theorem dX11_init_96 : decode cX11_init 96 = .ok (.bipush 100, 2) := by decide +kernel
theorem dX11_init_98 : decode cX11_init 98 = .ok (.newarray .int, 2) := by decide +kernel
theorem dX11_init_100 : decode cX11_init 100 = .ok (.putfield 44, 3) := by decide +kernel
theorem dX11_init_103 : decode cX11_init 103 = .ok (.aload_n 0, 1) := by decide +kernel
theorem dX11_init_104 : decode cX11_init 104 = .ok (.sipush 3298, 3) := by decide +kernel
theorem dX11_init_107 : decode cX11_init 107 = .ok (.newarray .long, 2) := by decide +kernel
theorem dX11_init_109 : decode cX11_init 109 = .ok (.putfield 47, 3) := by decide +kernel
theorem dX11_init_112 : decode cX11_init 112 = .ok (.aload_n 0, 1) := by decide +kernel
theorem dX11_init_113 : decode cX11_init 113 = .ok (.bipush 32, 2) := by decide +kernel
theorem dX11_init_115 : decode cX11_init 115 = .ok (.newarray .int, 2) := by decide +kernel
theorem dX11_init_117 : decode cX11_init 117 = .ok (.putfield 51, 3) := by decide +kernel
theorem dX11_init_120 : decode cX11_init 120 = .ok (.aload_n 0, 1) := by decide +kernel
theorem dX11_init_121 : decode cX11_init 121 = .ok (.sipush 3060, 3) := by decide +kernel
theorem dX11_init_124 : decode cX11_init 124 = .ok (.newarray .int, 2) := by decide +kernel
theorem dX11_init_126 : decode cX11_init 126 = .ok (.putfield 54, 3) := by decide +kernel
theorem dX11_init_129 : decode cX11_init 129 = .ok (.aload_n 0, 1) := by decide +kernel
theorem dX11_init_130 : decode cX11_init 130 = .ok (.bipush 18, 2) := by decide +kernel
theorem dX11_init_132 : decode cX11_init 132 = .ok (.newarray .int, 2) := by decide +kernel
theorem dX11_init_134 : decode cX11_init 134 = .ok (.putfield 57, 3) := by decide +kernel
theorem dX11_init_137 : decode cX11_init 137 = .ok (.aload_n 0, 1) := by decide +kernel
theorem dX11_init_138 : decode cX11_init 138 = .ok (.bipush 19, 2) := by decide +kernel
theorem dX11_init_140 : decode cX11_init 140 = .ok (.newarray .int, 2) := by decide +kernel
theorem dX11_init_142 : decode cX11_init 142 = .ok (.putfield 60, 3) := by decide +kernel
theorem dX11_init_145 : decode cX11_init 145 = .ok (.aload_n 0, 1) := by decide +kernel
theorem dX11_init_146 : decode cX11_init 146 = .ok (.bipush 18, 2) := by decide +kernel
theorem dX11_init_148 : decode cX11_init 148 = .ok (.newarray .int, 2) := by decide +kernel
theorem dX11_init_150 : decode cX11_init 150 = .ok (.putfield 63, 3) := by decide +kernel
theorem dX11_init_153 : decode cX11_init 153 = .ok (.aload_n 0, 1) := by decide +kernel
theorem dX11_init_154 : decode cX11_init 154 = .ok (.bipush 18, 2) := by decide +kernel
theorem dX11_init_156 : decode cX11_init 156 = .ok (.newarray .int, 2) := by decide +kernel
theorem dX11_init_158 : decode cX11_init 158 = .ok (.putfield 66, 3) := by decide +kernel
theorem dX11_init_161 : decode cX11_init 161 = .ok (.return_, 1) := by decide +kernel
theorem dX11_thrown_0 : decode cX11_thrown 0 = .ok (.aload_n 0, 1) := by decide +kernel
theorem dX11_thrown_1 : decode cX11_thrown 1 = .ok (.getfield 69, 3) := by decide +kernel
theorem dX11_thrown_4 : decode cX11_thrown 4 = .ok (.ireturn, 1) := by decide +kernel
theorem dX11_good_0 : decode cX11_good 0 = .ok (.aload_n 0, 1) := by decide +kernel
theorem dX11_good_1 : decode cX11_good 1 = .ok (.iconst 0, 1) := by decide +kernel
theorem dX11_good_2 : decode cX11_good 2 = .ok (.putfield 69, 3) := by decide +kernel
theorem dX11_good_5 : decode cX11_good 5 = .ok (.aload_n 0, 1) := by decide +kernel
theorem dX11_good_6 : decode cX11_good 6 = .ok (.iconst 0, 1) := by decide +kernel
theorem dX11_good_7 : decode cX11_good 7 = .ok (.putfield 72, 3) := by decide +kernel
theorem dX11_good_10 : decode cX11_good 10 = .ok (.return_, 1) := by decide +kernel
theorem dX11_no_0 : decode cX11_no 0 = .ok (.aload_n 0, 1) := by decide +kernel
theorem dX11_no_1 : decode cX11_no 1 = .ok (.iload_n 1, 1) := by decide +kernel
theorem dX11_no_2 : decode cX11_no 2 = .ok (.putfield 72, 3) := by decide +kernel
theorem dX11_no_5 : decode cX11_no 5 = .ok (.iconst (-1), 1) := by decide +kernel
theorem dX11_no_6 : decode cX11_no 6 = .ok (.ireturn, 1) := by decide +kernel
theorem dX11_less_0 : decode cX11_less 0 = .ok (.aload_n 0, 1) := by decide +kernel
theorem dX11_less_1 : decode cX11_less 1 = .ok (.iload_n 1, 1) := by decide +kernel
theorem dX11_less_2 : decode cX11_less 2 = .ok (.putfield 72, 3) := by decide +kernel
theorem dX11_less_5 : decode cX11_less 5 = .ok (.iload_n 2, 1) := by decide +kernel
theorem dX11_less_6 : decode cX11_less 6 = .ok (.ireturn, 1) := by decide +kernel
theorem dX11_isNot_0 : decode cX11_isNot 0 = .ok (.aload_n 0, 1) := by decide +kernel
theorem dX11_isNot_1 : decode cX11_isNot 1 = .ok (.iload_n 1, 1) := by decide +kernel
theorem dX11_isNot_2 : decode cX11_isNot 2 = .ok (.putfield 72, 3) := by decide +kernel
theorem dX11_isNot_5 : decode cX11_isNot 5 = .ok (.iconst 0, 1) := by decide +kernel
theorem dX11_isNot_6 : decode cX11_isNot 6 = .ok (.ireturn, 1) := by decide +kernel
theorem dX11_within_0 : decode cX11_within 0 = .ok (.iload_n 0, 1) := by decide +kernel
theorem dX11_within_1 : decode cX11_within 1 = .ok (.iload_n 1, 1) := by decide +kernel
theorem dX11_within_2 : decode cX11_within 2 = .ok (.if_icmp .lt 12, 3) := by decide +kernel
theorem dX11_within_5 : decode cX11_within 5 = .ok (.iload_n 0, 1) := by decide +kernel
theorem dX11_within_6 : decode cX11_within 6 = .ok (.iload_n 2, 1) := by decide +kernel
theorem dX11_within_7 : decode cX11_within 7 = .ok (.if_icmp .gt 7, 3) := by decide +kernel
theorem dX11_within_10 : decode cX11_within 10 = .ok (.iconst 1, 1) := by decide +kernel
theorem dX11_within_11 : decode cX11_within 11 = .ok (.goto 4, 3) := by decide +kernel
theorem dX11_within_14 : decode cX11_within 14 = .ok (.iconst 0, 1) := by decide +kernel
theorem dX11_within_15 : decode cX11_within 15 = .ok (.ireturn, 1) := by decide +kernel
theorem dX11_feed_0 : decode cX11_feed 0 = .ok (.aload_n 0, 1) := by decide +kernel
theorem dX11_feed_1 : decode cX11_feed 1 = .ok (.iconst 0, 1) := by decide +kernel
theorem dX11_feed_2 : decode cX11_feed 2 = .ok (.putfield 69, 3) := by decide +kernel
theorem dX11_feed_5 : decode cX11_feed 5 = .ok (.aload_n 0, 1) := by decide +kernel
theorem dX11_feed_6 : decode cX11_feed 6 = .ok (.getfield 75, 3) := by decide +kernel
theorem dX11_feed_9 : decode cX11_feed 9 = .ok (.bipush 20, 2) := by decide +kernel
theorem dX11_feed_11 : decode cX11_feed 11 = .ok (.iadd, 1) := by decide +kernel
theorem dX11_feed_12 : decode cX11_feed 12 = .ok (.sipush 900, 3) := by decide +kernel
theorem dX11_feed_15 : decode cX11_feed 15 = .ok (.if_icmp .le 5, 3) := by decide +kernel
theorem dX11_feed_18 : decode cX11_feed 18 = .ok (.iconst (-1), 1) := by decide +kernel
theorem dX11_feed_19 : decode cX11_feed 19 = .ok (.ireturn, 1) := by decide +kernel
theorem dX11_feed_20 : decode cX11_feed 20 = .ok (.iconst 0, 1) := by decide +kernel
theorem dX11_feed_21 : decode cX11_feed 21 = .ok (.istore 6, 2) := by decide +kernel
theorem dX11_feed_23 : decode cX11_feed 23 = .ok (.iload 6, 2) := by decide +kernel
theorem dX11_feed_25 : decode cX11_feed 25 = .ok (.bipush 20, 2) := by decide +kernel
theorem dX11_feed_27 : decode cX11_feed 27 = .ok (.if_icmp .ge 93, 3) := by decide +kernel
theorem dX11_feed_30 : decode cX11_feed 30 = .ok (.iload 6, 2) := by decide +kernel
theorem dX11_feed_32 : decode cX11_feed 32 = .ok (.iconst 4, 1) := by decide +kernel
theorem dX11_feed_33 : decode cX11_feed 33 = .ok (.if_icmp .ge 7, 3) := by decide +kernel
theorem dX11_feed_36 : decode cX11_feed 36 = .ok (.iload_n 1, 1) := by decide +kernel
theorem dX11_feed_37 : decode cX11_feed 37 = .ok (.goto 39, 3) := by decide +kernel
theorem dX11_feed_40 : decode cX11_feed 40 = .ok (.iload 6, 2) := by decide +kernel
theorem dX11_feed_42 : decode cX11_feed 42 = .ok (.bipush 8, 2) := by decide +kernel
theorem dX11_feed_44 : decode cX11_feed 44 = .ok (.if_icmp .ge 7, 3) := by decide +kernel
theorem dX11_feed_47 : decode cX11_feed 47 = .ok (.iload_n 2, 1) := by decide +kernel
theorem dX11_feed_48 : decode cX11_feed 48 = .ok (.goto 28, 3) := by decide +kernel
theorem dX11_feed_51 : decode cX11_feed 51 = .ok (.iload 6, 2) := by decide +kernel
theorem dX11_feed_53 : decode cX11_feed 53 = .ok (.bipush 12, 2) := by decide +kernel
theorem dX11_feed_55 : decode cX11_feed 55 = .ok (.if_icmp .ge 7, 3) := by decide +kernel
theorem dX11_feed_58 : decode cX11_feed 58 = .ok (.iload_n 3, 1) := by decide +kernel
theorem dX11_feed_59 : decode cX11_feed 59 = .ok (.goto 17, 3) := by decide +kernel
theorem dX11_feed_62 : decode cX11_feed 62 = .ok (.iload 6, 2) := by decide +kernel
theorem dX11_feed_64 : decode cX11_feed 64 = .ok (.bipush 16, 2) := by decide +kernel
theorem dX11_feed_66 : decode cX11_feed 66 = .ok (.if_icmp .ge 8, 3) := by decide +kernel
theorem dX11_feed_69 : decode cX11_feed 69 = .ok (.iload 4, 2) := by decide +kernel
theorem dX11_feed_71 : decode cX11_feed 71 = .ok (.goto 5, 3) := by decide +kernel
theorem dX11_feed_74 : decode cX11_feed 74 = .ok (.iload 5, 2) := by decide +kernel
theorem dX11_feed_76 : decode cX11_feed 76 = .ok (.istore 7, 2) := by decide +kernel
theorem dX11_feed_78 : decode cX11_feed 78 = .ok (.aload_n 0, 1) := by decide +kernel
theorem dX11_feed_79 : decode cX11_feed 79 = .ok (.getfield 7, 3) := by decide +kernel
theorem dX11_feed_82 : decode cX11_feed 82 = .ok (.aload_n 0, 1) := by decide +kernel
theorem dX11_feed_83 : decode cX11_feed 83 = .ok (.getfield 75, 3) := by decide +kernel
theorem dX11_feed_86 : decode cX11_feed 86 = .ok (.iload 7, 2) := by decide +kernel
theorem dX11_feed_88 : decode cX11_feed 88 = .ok (.bipush 24, 2) := by decide +kernel
theorem dX11_feed_90 : decode cX11_feed 90 = .ok (.bipush 8, 2) := by decide +kernel
theorem dX11_feed_92 : decode cX11_feed 92 = .ok (.iload 6, 2) := by decide +kernel
theorem dX11_feed_94 : decode cX11_feed 94 = .ok (.iconst 4, 1) := by decide +kernel
theorem dX11_feed_95 : decode cX11_feed 95 = .ok (.irem, 1) := by decide +kernel
theorem dX11_feed_96 : decode cX11_feed 96 = .ok (.imul, 1) := by decide +kernel
theorem dX11_feed_97 : decode cX11_feed 97 = .ok (.isub, 1) := by decide +kernel
theorem dX11_feed_98 : decode cX11_feed 98 = .ok (.ishr, 1) := by decide +kernel
theorem dX11_feed_99 : decode cX11_feed 99 = .ok (.sipush 255, 3) := by decide +kernel
theorem dX11_feed_102 : decode cX11_feed 102 = .ok (.iand, 1) := by decide +kernel
theorem dX11_feed_103 : decode cX11_feed 103 = .ok (.iastore, 1) := by decide +kernel
theorem dX11_feed_104 : decode cX11_feed 104 = .ok (.aload_n 0, 1) := by decide +kernel
theorem dX11_feed_105 : decode cX11_feed 105 = .ok (.dup, 1) := by decide +kernel
theorem dX11_feed_106 : decode cX11_feed 106 = .ok (.getfield 75, 3) := by decide +kernel
theorem dX11_feed_109 : decode cX11_feed 109 = .ok (.iconst 1, 1) := by decide +kernel
theorem dX11_feed_110 : decode cX11_feed 110 = .ok (.iadd, 1) := by decide +kernel
theorem dX11_feed_111 : decode cX11_feed 111 = .ok (.putfield 75, 3) := by decide +kernel
theorem dX11_feed_114 : decode cX11_feed 114 = .ok (.iinc 6 1, 3) := by decide +kernel
theorem dX11_feed_117 : decode cX11_feed 117 = .ok (.goto (-94), 3) := by decide +kernel
theorem dX11_feed_120 : decode cX11_feed 120 = .ok (.aload_n 0, 1) := by decide +kernel
theorem dX11_feed_121 : decode cX11_feed 121 = .ok (.getfield 75, 3) := by decide +kernel
theorem dX11_feed_124 : decode cX11_feed 124 = .ok (.ireturn, 1) := by decide +kernel
theorem dX11_see_0 : decode cX11_see 0 = .ok (.iload_n 1, 1) := by decide +kernel
theorem dX11_see_1 : decode cX11_see 1 = .ok (.aload_n 0, 1) := by decide +kernel
theorem dX11_see_2 : decode cX11_see 2 = .ok (.getfield 78, 3) := by decide +kernel
theorem dX11_see_5 : decode cX11_see 5 = .ok (.if_icmp .ge 12, 3) := by decide +kernel
theorem dX11_see_8 : decode cX11_see 8 = .ok (.aload_n 0, 1) := by decide +kernel
theorem dX11_see_9 : decode cX11_see 9 = .ok (.getfield 7, 3) := by decide +kernel
theorem dX11_see_12 : decode cX11_see 12 = .ok (.iload_n 1, 1) := by decide +kernel
theorem dX11_see_13 : decode cX11_see 13 = .ok (.iaload, 1) := by decide +kernel
theorem dX11_see_14 : decode cX11_see 14 = .ok (.goto 4, 3) := by decide +kernel
theorem dX11_see_17 : decode cX11_see 17 = .ok (.iconst (-1), 1) := by decide +kernel
theorem dX11_see_18 : decode cX11_see 18 = .ok (.ireturn, 1) := by decide +kernel
set_option maxRecDepth 20000 in
theorem ggX11_next_X11_see : GoodIn wsX11_next wsX11_see := goodIn_r _ [11, 12, 13, 20, 21, 22, 23, 24, 25, 26, 27, 28, 29, 30, 31, 32, 33, 34, 35, 36, 37, 38, 39, 40, 41, 42, 43, 44, 45, 46, 47, 48, 49, 50, 51, 52, 53, 54, 55, 56, 57, 58, 59] (by decide +kernel) (by decide +kernel)
set_option maxRecDepth 20000 in
theorem gX11_next_X11_see : GoodIn wsX11_next (wsV RX11 84 RX11 yX11_see wsX11_see) := goodIn_app (goodIn_of _ (by decide +kernel)) ggX11_next_X11_see
theorem dX11_next_0 : decode cX11_next 0 = .ok (.aload_n 0, 1) := by decide +kernel
theorem dX11_next_1 : decode cX11_next 1 = .ok (.getfield 81, 3) := by decide +kernel
theorem dX11_next_4 : decode cX11_next 4 = .ok (.istore_n 1, 1) := by decide +kernel
theorem dX11_next_5 : decode cX11_next 5 = .ok (.aload_n 0, 1) := by decide +kernel
theorem dX11_next_6 : decode cX11_next 6 = .ok (.iload_n 1, 1) := by decide +kernel
theorem dX11_next_7 : decode cX11_next 7 = .ok (.invokevirtual 84, 3) := by decide +kernel
theorem dX11_next_10 : decode cX11_next 10 = .ok (.bipush 32, 2) := by decide +kernel
theorem dX11_next_12 : decode cX11_next 12 = .ok (.if_icmp .ne 9, 3) := by decide +kernel
theorem dX11_next_15 : decode cX11_next 15 = .ok (.iinc 1 1, 3) := by decide +kernel
theorem dX11_next_18 : decode cX11_next 18 = .ok (.goto (-13), 3) := by decide +kernel
theorem dX11_next_21 : decode cX11_next 21 = .ok (.aload_n 0, 1) := by decide +kernel
theorem dX11_next_22 : decode cX11_next 22 = .ok (.iload_n 1, 1) := by decide +kernel
theorem dX11_next_23 : decode cX11_next 23 = .ok (.putfield 88, 3) := by decide +kernel
theorem dX11_next_26 : decode cX11_next 26 = .ok (.aload_n 0, 1) := by decide +kernel
theorem dX11_next_27 : decode cX11_next 27 = .ok (.iload_n 1, 1) := by decide +kernel
theorem dX11_next_28 : decode cX11_next 28 = .ok (.invokevirtual 84, 3) := by decide +kernel
theorem dX11_next_31 : decode cX11_next 31 = .ok (.istore_n 2, 1) := by decide +kernel
theorem dX11_next_32 : decode cX11_next 32 = .ok (.aload_n 0, 1) := by decide +kernel
theorem dX11_next_33 : decode cX11_next 33 = .ok (.iconst 0, 1) := by decide +kernel
theorem dX11_next_34 : decode cX11_next 34 = .ok (.putfield 91, 3) := by decide +kernel
theorem dX11_next_37 : decode cX11_next 37 = .ok (.aload_n 0, 1) := by decide +kernel
theorem dX11_next_38 : decode cX11_next 38 = .ok (.iconst 0, 1) := by decide +kernel
theorem dX11_next_39 : decode cX11_next 39 = .ok (.putfield 94, 3) := by decide +kernel
theorem dX11_next_42 : decode cX11_next 42 = .ok (.iload_n 2, 1) := by decide +kernel
theorem dX11_next_43 : decode cX11_next 43 = .ok (.iconst (-1), 1) := by decide +kernel
theorem dX11_next_44 : decode cX11_next 44 = .ok (.if_icmp .ne 16, 3) := by decide +kernel
theorem dX11_next_47 : decode cX11_next 47 = .ok (.aload_n 0, 1) := by decide +kernel
theorem dX11_next_48 : decode cX11_next 48 = .ok (.iconst 0, 1) := by decide +kernel
theorem dX11_next_49 : decode cX11_next 49 = .ok (.putfield 97, 3) := by decide +kernel
theorem dX11_next_52 : decode cX11_next 52 = .ok (.aload_n 0, 1) := by decide +kernel
theorem dX11_next_53 : decode cX11_next 53 = .ok (.iload_n 1, 1) := by decide +kernel
theorem dX11_next_54 : decode cX11_next 54 = .ok (.putfield 81, 3) := by decide +kernel
theorem dX11_next_57 : decode cX11_next 57 = .ok (.goto 196, 3) := by decide +kernel
theorem dX11_next_60 : decode cX11_next 60 = .ok (.iload_n 2, 1) := by decide +kernel
theorem dX11_next_61 : decode cX11_next 61 = .ok (.invokestatic 100, 3) := by decide +kernel
theorem dX11_next_64 : decode cX11_next 64 = .ok (.ifCond .eq 79, 3) := by decide +kernel
theorem dX11_next_67 : decode cX11_next 67 = .ok (.aload_n 0, 1) := by decide +kernel
theorem dX11_next_68 : decode cX11_next 68 = .ok (.iload_n 1, 1) := by decide +kernel
theorem dX11_next_69 : decode cX11_next 69 = .ok (.invokevirtual 84, 3) := by decide +kernel
theorem dX11_next_72 : decode cX11_next 72 = .ok (.invokestatic 100, 3) := by decide +kernel
theorem dX11_next_75 : decode cX11_next 75 = .ok (.ifCond .eq 42, 3) := by decide +kernel
theorem dX11_next_78 : decode cX11_next 78 = .ok (.aload_n 0, 1) := by decide +kernel
theorem dX11_next_79 : decode cX11_next 79 = .ok (.getfield 91, 3) := by decide +kernel
theorem dX11_next_82 : decode cX11_next 82 = .ok (.bipush 8, 2) := by decide +kernel
theorem dX11_next_84 : decode cX11_next 84 = .ok (.if_icmp .ge 17, 3) := by decide +kernel
theorem dX11_next_87 : decode cX11_next 87 = .ok (.aload_n 0, 1) := by decide +kernel
theorem dX11_next_88 : decode cX11_next 88 = .ok (.getfield 17, 3) := by decide +kernel
theorem dX11_next_91 : decode cX11_next 91 = .ok (.aload_n 0, 1) := by decide +kernel
theorem dX11_next_92 : decode cX11_next 92 = .ok (.getfield 91, 3) := by decide +kernel
theorem dX11_next_95 : decode cX11_next 95 = .ok (.aload_n 0, 1) := by decide +kernel
theorem dX11_next_96 : decode cX11_next 96 = .ok (.iload_n 1, 1) := by decide +kernel
theorem dX11_next_97 : decode cX11_next 97 = .ok (.invokevirtual 84, 3) := by decide +kernel
theorem dX11_next_100 : decode cX11_next 100 = .ok (.iastore, 1) := by decide +kernel
theorem dX11_next_101 : decode cX11_next 101 = .ok (.aload_n 0, 1) := by decide +kernel
theorem dX11_next_102 : decode cX11_next 102 = .ok (.dup, 1) := by decide +kernel
theorem dX11_next_103 : decode cX11_next 103 = .ok (.getfield 91, 3) := by decide +kernel
theorem dX11_next_106 : decode cX11_next 106 = .ok (.iconst 1, 1) := by decide +kernel
theorem dX11_next_107 : decode cX11_next 107 = .ok (.iadd, 1) := by decide +kernel
theorem dX11_next_108 : decode cX11_next 108 = .ok (.putfield 91, 3) := by decide +kernel
theorem dX11_next_111 : decode cX11_next 111 = .ok (.iinc 1 1, 3) := by decide +kernel
theorem dX11_next_114 : decode cX11_next 114 = .ok (.goto (-47), 3) := by decide +kernel
theorem dX11_next_117 : decode cX11_next 117 = .ok (.aload_n 0, 1) := by decide +kernel
theorem dX11_next_118 : decode cX11_next 118 = .ok (.iload_n 1, 1) := by decide +kernel
theorem dX11_next_119 : decode cX11_next 119 = .ok (.putfield 81, 3) := by decide +kernel
theorem dX11_next_122 : decode cX11_next 122 = .ok (.aload_n 0, 1) := by decide +kernel
theorem dX11_next_123 : decode cX11_next 123 = .ok (.aload_n 0, 1) := by decide +kernel
theorem dX11_next_124 : decode cX11_next 124 = .ok (.getfield 91, 3) := by decide +kernel
theorem dX11_next_127 : decode cX11_next 127 = .ok (.bipush 8, 2) := by decide +kernel
theorem dX11_next_129 : decode cX11_next 129 = .ok (.if_icmp .le 7, 3) := by decide +kernel
theorem dX11_next_132 : decode cX11_next 132 = .ok (.iconst 1, 1) := by decide +kernel
theorem dX11_next_133 : decode cX11_next 133 = .ok (.goto 4, 3) := by decide +kernel
theorem dX11_next_136 : decode cX11_next 136 = .ok (.iconst 2, 1) := by decide +kernel
theorem dX11_next_137 : decode cX11_next 137 = .ok (.putfield 97, 3) := by decide +kernel
theorem dX11_next_140 : decode cX11_next 140 = .ok (.goto 113, 3) := by decide +kernel
theorem dX11_next_143 : decode cX11_next 143 = .ok (.iload_n 2, 1) := by decide +kernel
theorem dX11_next_144 : decode cX11_next 144 = .ok (.invokestatic 104, 3) := by decide +kernel
theorem dX11_next_147 : decode cX11_next 147 = .ok (.ifCond .eq 72, 3) := by decide +kernel
theorem dX11_next_150 : decode cX11_next 150 = .ok (.iconst 0, 1) := by decide +kernel
theorem dX11_next_151 : decode cX11_next 151 = .ok (.istore_n 3, 1) := by decide +kernel
theorem dX11_next_152 : decode cX11_next 152 = .ok (.aload_n 0, 1) := by decide +kernel
theorem dX11_next_153 : decode cX11_next 153 = .ok (.iload_n 1, 1) := by decide +kernel
theorem dX11_next_154 : decode cX11_next 154 = .ok (.invokevirtual 84, 3) := by decide +kernel
theorem dX11_next_157 : decode cX11_next 157 = .ok (.invokestatic 104, 3) := by decide +kernel
theorem dX11_next_160 : decode cX11_next 160 = .ok (.ifCond .eq 37, 3) := by decide +kernel
theorem dX11_next_163 : decode cX11_next 163 = .ok (.iload_n 3, 1) := by decide +kernel
theorem dX11_next_164 : decode cX11_next 164 = .ok (.iconst 3, 1) := by decide +kernel
theorem dX11_next_165 : decode cX11_next 165 = .ok (.if_icmp .ge 23, 3) := by decide +kernel
theorem dX11_next_168 : decode cX11_next 168 = .ok (.aload_n 0, 1) := by decide +kernel
theorem dX11_next_169 : decode cX11_next 169 = .ok (.bipush 10, 2) := by decide +kernel
theorem dX11_next_171 : decode cX11_next 171 = .ok (.aload_n 0, 1) := by decide +kernel
theorem dX11_next_172 : decode cX11_next 172 = .ok (.getfield 94, 3) := by decide +kernel
theorem dX11_next_175 : decode cX11_next 175 = .ok (.imul, 1) := by decide +kernel
theorem dX11_next_176 : decode cX11_next 176 = .ok (.aload_n 0, 1) := by decide +kernel
theorem dX11_next_177 : decode cX11_next 177 = .ok (.iload_n 1, 1) := by decide +kernel
theorem dX11_next_178 : decode cX11_next 178 = .ok (.invokevirtual 84, 3) := by decide +kernel
theorem dX11_next_181 : decode cX11_next 181 = .ok (.iadd, 1) := by decide +kernel
theorem dX11_next_182 : decode cX11_next 182 = .ok (.bipush 48, 2) := by decide +kernel
theorem dX11_next_184 : decode cX11_next 184 = .ok (.isub, 1) := by decide +kernel
theorem dX11_next_185 : decode cX11_next 185 = .ok (.putfield 94, 3) := by decide +kernel
theorem dX11_next_188 : decode cX11_next 188 = .ok (.iinc 3 1, 3) := by decide +kernel
theorem dX11_next_191 : decode cX11_next 191 = .ok (.iinc 1 1, 3) := by decide +kernel
theorem dX11_next_194 : decode cX11_next 194 = .ok (.goto (-42), 3) := by decide +kernel
theorem dX11_next_197 : decode cX11_next 197 = .ok (.aload_n 0, 1) := by decide +kernel
theorem dX11_next_198 : decode cX11_next 198 = .ok (.iload_n 1, 1) := by decide +kernel
theorem dX11_next_199 : decode cX11_next 199 = .ok (.putfield 81, 3) := by decide +kernel
theorem dX11_next_202 : decode cX11_next 202 = .ok (.aload_n 0, 1) := by decide +kernel
theorem dX11_next_203 : decode cX11_next 203 = .ok (.iload_n 3, 1) := by decide +kernel
theorem dX11_next_204 : decode cX11_next 204 = .ok (.iconst 3, 1) := by decide +kernel
theorem dX11_next_205 : decode cX11_next 205 = .ok (.if_icmp .le 7, 3) := by decide +kernel
theorem dX11_next_208 : decode cX11_next 208 = .ok (.iconst 1, 1) := by decide +kernel
theorem dX11_next_209 : decode cX11_next 209 = .ok (.goto 4, 3) := by decide +kernel
theorem dX11_next_212 : decode cX11_next 212 = .ok (.iconst 3, 1) := by decide +kernel
theorem dX11_next_213 : decode cX11_next 213 = .ok (.putfield 97, 3) := by decide +kernel
theorem dX11_next_216 : decode cX11_next 216 = .ok (.goto 37, 3) := by decide +kernel
theorem dX11_next_219 : decode cX11_next 219 = .ok (.aload_n 0, 1) := by decide +kernel
theorem dX11_next_220 : decode cX11_next 220 = .ok (.iload_n 1, 1) := by decide +kernel
theorem dX11_next_221 : decode cX11_next 221 = .ok (.iconst 1, 1) := by decide +kernel
theorem dX11_next_222 : decode cX11_next 222 = .ok (.iadd, 1) := by decide +kernel
theorem dX11_next_223 : decode cX11_next 223 = .ok (.putfield 81, 3) := by decide +kernel
theorem dX11_next_226 : decode cX11_next 226 = .ok (.aload_n 0, 1) := by decide +kernel
theorem dX11_next_227 : decode cX11_next 227 = .ok (.iload_n 2, 1) := by decide +kernel
theorem dX11_next_228 : decode cX11_next 228 = .ok (.bipush 59, 2) := by decide +kernel
theorem dX11_next_230 : decode cX11_next 230 = .ok (.if_icmp .eq 15, 3) := by decide +kernel
theorem dX11_next_233 : decode cX11_next 233 = .ok (.iload_n 2, 1) := by decide +kernel
theorem dX11_next_234 : decode cX11_next 234 = .ok (.bipush 44, 2) := by decide +kernel
theorem dX11_next_236 : decode cX11_next 236 = .ok (.if_icmp .eq 9, 3) := by decide +kernel
theorem dX11_next_239 : decode cX11_next 239 = .ok (.iload_n 2, 1) := by decide +kernel
theorem dX11_next_240 : decode cX11_next 240 = .ok (.bipush 45, 2) := by decide +kernel
theorem dX11_next_242 : decode cX11_next 242 = .ok (.if_icmp .ne 7, 3) := by decide +kernel
theorem dX11_next_245 : decode cX11_next 245 = .ok (.iload_n 2, 1) := by decide +kernel
theorem dX11_next_246 : decode cX11_next 246 = .ok (.goto 4, 3) := by decide +kernel
theorem dX11_next_249 : decode cX11_next 249 = .ok (.iconst 1, 1) := by decide +kernel
theorem dX11_next_250 : decode cX11_next 250 = .ok (.putfield 97, 3) := by decide +kernel
theorem dX11_next_253 : decode cX11_next 253 = .ok (.return_, 1) := by decide +kernel
theorem dX11_wrong_0 : decode cX11_wrong 0 = .ok (.aload_n 0, 1) := by decide +kernel
theorem dX11_wrong_1 : decode cX11_wrong 1 = .ok (.getfield 107, 3) := by decide +kernel
theorem dX11_wrong_4 : decode cX11_wrong 4 = .ok (.ifCond .eq 4, 3) := by decide +kernel
theorem dX11_wrong_7 : decode cX11_wrong 7 = .ok (.return_, 1) := by decide +kernel
theorem dX11_wrong_8 : decode cX11_wrong 8 = .ok (.aload_n 0, 1) := by decide +kernel
theorem dX11_wrong_9 : decode cX11_wrong 9 = .ok (.iconst 1, 1) := by decide +kernel
theorem dX11_wrong_10 : decode cX11_wrong 10 = .ok (.putfield 107, 3) := by decide +kernel
theorem dX11_wrong_13 : decode cX11_wrong 13 = .ok (.aload_n 0, 1) := by decide +kernel
theorem dX11_wrong_14 : decode cX11_wrong 14 = .ok (.iload_n 1, 1) := by decide +kernel
theorem dX11_wrong_15 : decode cX11_wrong 15 = .ok (.putfield 111, 3) := by decide +kernel
theorem dX11_wrong_18 : decode cX11_wrong 18 = .ok (.aload_n 0, 1) := by decide +kernel
theorem dX11_wrong_19 : decode cX11_wrong 19 = .ok (.iload_n 2, 1) := by decide +kernel
theorem dX11_wrong_20 : decode cX11_wrong 20 = .ok (.putfield 13, 3) := by decide +kernel
theorem dX11_wrong_23 : decode cX11_wrong 23 = .ok (.return_, 1) := by decide +kernel
theorem dX11_isWord_0 : decode cX11_isWord 0 = .ok (.aload_n 0, 1) := by decide +kernel
theorem dX11_isWord_1 : decode cX11_isWord 1 = .ok (.getfield 107, 3) := by decide +kernel
theorem dX11_isWord_4 : decode cX11_isWord 4 = .ok (.ifCond .ne 22, 3) := by decide +kernel
theorem dX11_isWord_7 : decode cX11_isWord 7 = .ok (.aload_n 0, 1) := by decide +kernel
theorem dX11_isWord_8 : decode cX11_isWord 8 = .ok (.getfield 97, 3) := by decide +kernel
theorem dX11_isWord_11 : decode cX11_isWord 11 = .ok (.iconst 2, 1) := by decide +kernel
theorem dX11_isWord_12 : decode cX11_isWord 12 = .ok (.if_icmp .ne 14, 3) := by decide +kernel
theorem dX11_isWord_15 : decode cX11_isWord 15 = .ok (.aload_n 0, 1) := by decide +kernel
theorem dX11_isWord_16 : decode cX11_isWord 16 = .ok (.getfield 91, 3) := by decide +kernel
theorem dX11_isWord_19 : decode cX11_isWord 19 = .ok (.aload_n 1, 1) := by decide +kernel
theorem dX11_isWord_20 : decode cX11_isWord 20 = .ok (.invokevirtual 114, 3) := by decide +kernel
theorem dX11_isWord_23 : decode cX11_isWord 23 = .ok (.if_icmp .eq 5, 3) := by decide +kernel
theorem dX11_isWord_26 : decode cX11_isWord 26 = .ok (.iconst 0, 1) := by decide +kernel
theorem dX11_isWord_27 : decode cX11_isWord 27 = .ok (.ireturn, 1) := by decide +kernel
theorem dX11_isWord_28 : decode cX11_isWord 28 = .ok (.iconst 1, 1) := by decide +kernel
theorem dX11_isWord_29 : decode cX11_isWord 29 = .ok (.istore_n 2, 1) := by decide +kernel
theorem dX11_isWord_30 : decode cX11_isWord 30 = .ok (.iconst 0, 1) := by decide +kernel
theorem dX11_isWord_31 : decode cX11_isWord 31 = .ok (.istore_n 3, 1) := by decide +kernel
theorem dX11_isWord_32 : decode cX11_isWord 32 = .ok (.iload_n 3, 1) := by decide +kernel
theorem dX11_isWord_33 : decode cX11_isWord 33 = .ok (.aload_n 0, 1) := by decide +kernel
theorem dX11_isWord_34 : decode cX11_isWord 34 = .ok (.getfield 91, 3) := by decide +kernel
theorem dX11_isWord_37 : decode cX11_isWord 37 = .ok (.if_icmp .ge 33, 3) := by decide +kernel
theorem dX11_isWord_40 : decode cX11_isWord 40 = .ok (.iload_n 2, 1) := by decide +kernel
theorem dX11_isWord_41 : decode cX11_isWord 41 = .ok (.ifCond .eq 21, 3) := by decide +kernel
theorem dX11_isWord_44 : decode cX11_isWord 44 = .ok (.aload_n 0, 1) := by decide +kernel
theorem dX11_isWord_45 : decode cX11_isWord 45 = .ok (.getfield 17, 3) := by decide +kernel
theorem dX11_isWord_48 : decode cX11_isWord 48 = .ok (.iload_n 3, 1) := by decide +kernel
theorem dX11_isWord_49 : decode cX11_isWord 49 = .ok (.iaload, 1) := by decide +kernel
theorem dX11_isWord_50 : decode cX11_isWord 50 = .ok (.aload_n 1, 1) := by decide +kernel
theorem dX11_isWord_51 : decode cX11_isWord 51 = .ok (.iload_n 3, 1) := by decide +kernel
theorem dX11_isWord_52 : decode cX11_isWord 52 = .ok (.invokevirtual 120, 3) := by decide +kernel
theorem dX11_isWord_55 : decode cX11_isWord 55 = .ok (.if_icmp .ne 7, 3) := by decide +kernel
theorem dX11_isWord_58 : decode cX11_isWord 58 = .ok (.iconst 1, 1) := by decide +kernel
theorem dX11_isWord_59 : decode cX11_isWord 59 = .ok (.goto 4, 3) := by decide +kernel
theorem dX11_isWord_62 : decode cX11_isWord 62 = .ok (.iconst 0, 1) := by decide +kernel
theorem dX11_isWord_63 : decode cX11_isWord 63 = .ok (.istore_n 2, 1) := by decide +kernel
theorem dX11_isWord_64 : decode cX11_isWord 64 = .ok (.iinc 3 1, 3) := by decide +kernel
theorem dX11_isWord_67 : decode cX11_isWord 67 = .ok (.goto (-35), 3) := by decide +kernel
theorem dX11_isWord_70 : decode cX11_isWord 70 = .ok (.iload_n 2, 1) := by decide +kernel
theorem dX11_isWord_71 : decode cX11_isWord 71 = .ok (.ireturn, 1) := by decide +kernel
set_option maxRecDepth 20000 in
theorem ggX11_book_X11_good : GoodIn wsX11_book wsX11_good := goodIn_r _ [18, 19, 20, 180, 181, 182, 183, 184, 185, 186, 187, 188, 189, 190, 191, 192, 193, 194, 195, 196, 197, 198, 199, 200, 201, 202, 203, 204, 205, 206, 207, 208, 209, 210, 211, 212, 213, 214, 215, 216, 217, 218, 219] (by decide +kernel) (by decide +kernel)
set_option maxRecDepth 20000 in
theorem gX11_book_X11_good : GoodIn wsX11_book (wsV RX11 174 RX11 yX11_good wsX11_good) := goodIn_app (goodIn_of _ (by decide +kernel)) ggX11_book_X11_good
set_option maxRecDepth 20000 in
theorem ggX11_book_X11_within : GoodIn wsX11_book wsX11_within := goodIn_r _ [23] (by decide +kernel) (by decide +kernel)
set_option maxRecDepth 20000 in
theorem gX11_book_X11_within : GoodIn wsX11_book (va_wsS RX11 170 yX11_within wsX11_within) := goodIn_app (goodIn_of _ (by decide +kernel)) ggX11_book_X11_within
set_option maxRecDepth 20000 in
theorem ggX11_book_X11_no : GoodIn wsX11_book wsX11_no := goodIn_r _ [27, 20, 180, 181, 182, 183, 184, 185, 186, 187, 188, 189, 190, 191, 192, 193, 194, 195, 196, 197, 198, 199, 200, 201, 202, 203, 204, 205, 206, 207, 208, 209, 210, 211, 212, 213, 214, 215, 216, 217, 218, 219] (by decide +kernel) (by decide +kernel)
set_option maxRecDepth 20000 in
theorem gX11_book_X11_no : GoodIn wsX11_book (wsV RX11 177 RX11 yX11_no wsX11_no) := goodIn_app (goodIn_of _ (by decide +kernel)) ggX11_book_X11_no
set_option maxRecDepth 20000 in
theorem ggX11_book_X11_next : GoodIn wsX11_book wsX11_next := goodIn_r _ [31, 6, 8, 32, 33, 7, 34, 35, 36, 37, 17, 38, 5, 39, 40, 41, 42, 43, 44, 45, 180, 181, 182, 183, 184, 185, 186, 187, 188, 189, 190, 191, 192, 193, 194, 195, 196, 197, 198, 199, 200, 201, 202, 203, 204, 205, 206, 207, 208, 209, 210, 211, 212, 213, 214, 215, 216, 217, 218, 219] (by decide +kernel) (by decide +kernel)
set_option maxRecDepth 20000 in
theorem gX11_book_X11_next : GoodIn wsX11_book (wsV RX11 128 RX11 yX11_next wsX11_next) := goodIn_app (goodIn_of _ (by decide +kernel)) ggX11_book_X11_next
set_option maxRecDepth 20000 in
theorem ggX11_book_X11_readLine : GoodIn wsX11_book wsX11_readLine := goodIn_r _ [49, 4, 8, 50, 51, 52, 17, 53, 3, 54, 55, 56, 57, 7, 32, 34, 58, 59, 60, 61, 62, 63, 64, 65, 66, 67, 68, 69, 70, 71, 72, 73, 74, 75, 76, 77, 78, 79, 80, 81, 82, 83, 84, 85, 86, 87, 88, 89, 90, 91, 92, 93, 94, 95, 96, 97, 98, 99, 100, 101, 102, 103, 104, 105, 106, 107, 108, 109, 110, 2, 111, 28, 29, 30, 31, 6, 33, 35, 36, 37, 38, 5, 39, 40, 41, 42, 43, 44, 45, 112, 113, 114, 115, 116, 117, 118, 119, 120, 121, 122, 123, 124, 125, 126, 127, 21, 22, 23, 128, 129, 130, 131, 132, 133, 134, 135, 136, 137, 138, 139, 140, 141, 142, 143, 144, 145, 146, 147, 148, 149, 150, 151, 152, 153, 154, 155, 156, 157, 158, 159, 160, 161, 162, 163, 164, 165, 166, 167, 168, 169, 170, 171, 172, 173, 174, 180, 181, 182, 183, 184, 185, 186, 187, 188, 189, 190, 191, 192, 193, 194, 195, 196, 197, 198, 199, 200, 201, 202, 203, 204, 205, 206, 207, 208, 209, 210, 211, 212, 213, 214, 215, 216, 217, 218, 219] (by decide +kernel) (by decide +kernel)
set_option maxRecDepth 20000 in
theorem gX11_book_X11_readLine : GoodIn wsX11_book (wsV RX11 180 RX11 yX11_readLine wsX11_readLine) := goodIn_app (goodIn_of _ (by decide +kernel)) ggX11_book_X11_readLine
theorem dX11_book_0 : decode cX11_book 0 = .ok (.aload_n 0, 1) := by decide +kernel
theorem dX11_book_1 : decode cX11_book 1 = .ok (.invokevirtual 174, 3) := by decide +kernel
theorem dX11_book_4 : decode cX11_book 4 = .ok (.iload_n 1, 1) := by decide +kernel
theorem dX11_book_5 : decode cX11_book 5 = .ok (.iconst 0, 1) := by decide +kernel
theorem dX11_book_6 : decode cX11_book 6 = .ok (.aload_n 0, 1) := by decide +kernel
theorem dX11_book_7 : decode cX11_book 7 = .ok (.getfield 75, 3) := by decide +kernel
theorem dX11_book_10 : decode cX11_book 10 = .ok (.invokestatic 170, 3) := by decide +kernel
theorem dX11_book_13 : decode cX11_book 13 = .ok (.ifCond .ne 9, 3) := by decide +kernel
theorem dX11_book_16 : decode cX11_book 16 = .ok (.aload_n 0, 1) := by decide +kernel
theorem dX11_book_17 : decode cX11_book 17 = .ok (.iconst 2, 1) := by decide +kernel
theorem dX11_book_18 : decode cX11_book 18 = .ok (.invokevirtual 177, 3) := by decide +kernel
theorem dX11_book_21 : decode cX11_book 21 = .ok (.ireturn, 1) := by decide +kernel
theorem dX11_book_22 : decode cX11_book 22 = .ok (.aload_n 0, 1) := by decide +kernel
theorem dX11_book_23 : decode cX11_book 23 = .ok (.iconst 0, 1) := by decide +kernel
theorem dX11_book_24 : decode cX11_book 24 = .ok (.putfield 75, 3) := by decide +kernel
theorem dX11_book_27 : decode cX11_book 27 = .ok (.aload_n 0, 1) := by decide +kernel
theorem dX11_book_28 : decode cX11_book 28 = .ok (.iconst 0, 1) := by decide +kernel
theorem dX11_book_29 : decode cX11_book 29 = .ok (.putfield 111, 3) := by decide +kernel
theorem dX11_book_32 : decode cX11_book 32 = .ok (.aload_n 0, 1) := by decide +kernel
theorem dX11_book_33 : decode cX11_book 33 = .ok (.iconst 0, 1) := by decide +kernel
theorem dX11_book_34 : decode cX11_book 34 = .ok (.putfield 107, 3) := by decide +kernel
theorem dX11_book_37 : decode cX11_book 37 = .ok (.iconst 0, 1) := by decide +kernel
theorem dX11_book_38 : decode cX11_book 38 = .ok (.istore_n 2, 1) := by decide +kernel
theorem dX11_book_39 : decode cX11_book 39 = .ok (.iload_n 2, 1) := by decide +kernel
theorem dX11_book_40 : decode cX11_book 40 = .ok (.sipush 346, 3) := by decide +kernel
theorem dX11_book_43 : decode cX11_book 43 = .ok (.if_icmp .ge 16, 3) := by decide +kernel
theorem dX11_book_46 : decode cX11_book 46 = .ok (.aload_n 0, 1) := by decide +kernel
theorem dX11_book_47 : decode cX11_book 47 = .ok (.getfield 23, 3) := by decide +kernel
theorem dX11_book_50 : decode cX11_book 50 = .ok (.iload_n 2, 1) := by decide +kernel
theorem dX11_book_51 : decode cX11_book 51 = .ok (.iconst 0, 1) := by decide +kernel
theorem dX11_book_52 : decode cX11_book 52 = .ok (.iastore, 1) := by decide +kernel
theorem dX11_book_53 : decode cX11_book 53 = .ok (.iinc 2 1, 3) := by decide +kernel
theorem dX11_book_56 : decode cX11_book 56 = .ok (.goto (-17), 3) := by decide +kernel
theorem dX11_book_59 : decode cX11_book 59 = .ok (.aload_n 0, 1) := by decide +kernel
theorem dX11_book_60 : decode cX11_book 60 = .ok (.iload_n 1, 1) := by decide +kernel
theorem dX11_book_61 : decode cX11_book 61 = .ok (.putfield 78, 3) := by decide +kernel
theorem dX11_book_64 : decode cX11_book 64 = .ok (.aload_n 0, 1) := by decide +kernel
theorem dX11_book_65 : decode cX11_book 65 = .ok (.iconst 0, 1) := by decide +kernel
theorem dX11_book_66 : decode cX11_book 66 = .ok (.putfield 81, 3) := by decide +kernel
theorem dX11_book_69 : decode cX11_book 69 = .ok (.aload_n 0, 1) := by decide +kernel
theorem dX11_book_70 : decode cX11_book 70 = .ok (.invokevirtual 128, 3) := by decide +kernel
theorem dX11_book_73 : decode cX11_book 73 = .ok (.aload_n 0, 1) := by decide +kernel
theorem dX11_book_74 : decode cX11_book 74 = .ok (.invokevirtual 180, 3) := by decide +kernel
theorem dX11_book_77 : decode cX11_book 77 = .ok (.aload_n 0, 1) := by decide +kernel
theorem dX11_book_78 : decode cX11_book 78 = .ok (.getfield 107, 3) := by decide +kernel
theorem dX11_book_81 : decode cX11_book 81 = .ok (.ifCond .ne 23, 3) := by decide +kernel
theorem dX11_book_84 : decode cX11_book 84 = .ok (.aload_n 0, 1) := by decide +kernel
theorem dX11_book_85 : decode cX11_book 85 = .ok (.getfield 97, 3) := by decide +kernel
theorem dX11_book_88 : decode cX11_book 88 = .ok (.bipush 59, 2) := by decide +kernel
theorem dX11_book_90 : decode cX11_book 90 = .ok (.if_icmp .ne 14, 3) := by decide +kernel
theorem dX11_book_93 : decode cX11_book 93 = .ok (.aload_n 0, 1) := by decide +kernel
theorem dX11_book_94 : decode cX11_book 94 = .ok (.invokevirtual 128, 3) := by decide +kernel
theorem dX11_book_97 : decode cX11_book 97 = .ok (.aload_n 0, 1) := by decide +kernel
theorem dX11_book_98 : decode cX11_book 98 = .ok (.invokevirtual 180, 3) := by decide +kernel
theorem dX11_book_101 : decode cX11_book 101 = .ok (.goto (-24), 3) := by decide +kernel
theorem dX11_book_104 : decode cX11_book 104 = .ok (.aload_n 0, 1) := by decide +kernel
theorem dX11_book_105 : decode cX11_book 105 = .ok (.getfield 107, 3) := by decide +kernel
theorem dX11_book_108 : decode cX11_book 108 = .ok (.ifCond .ne 19, 3) := by decide +kernel
theorem dX11_book_111 : decode cX11_book 111 = .ok (.aload_n 0, 1) := by decide +kernel
theorem dX11_book_112 : decode cX11_book 112 = .ok (.getfield 97, 3) := by decide +kernel
theorem dX11_book_115 : decode cX11_book 115 = .ok (.ifCond .eq 12, 3) := by decide +kernel
theorem dX11_book_118 : decode cX11_book 118 = .ok (.aload_n 0, 1) := by decide +kernel
theorem dX11_book_119 : decode cX11_book 119 = .ok (.iconst 1, 1) := by decide +kernel
theorem dX11_book_120 : decode cX11_book 120 = .ok (.aload_n 0, 1) := by decide +kernel
theorem dX11_book_121 : decode cX11_book 121 = .ok (.getfield 88, 3) := by decide +kernel
theorem dX11_book_124 : decode cX11_book 124 = .ok (.invokevirtual 134, 3) := by decide +kernel
theorem dX11_book_127 : decode cX11_book 127 = .ok (.aload_n 0, 1) := by decide +kernel
theorem dX11_book_128 : decode cX11_book 128 = .ok (.getfield 107, 3) := by decide +kernel
theorem dX11_book_131 : decode cX11_book 131 = .ok (.ifCond .ne 33, 3) := by decide +kernel
theorem dX11_book_134 : decode cX11_book 134 = .ok (.aload_n 0, 1) := by decide +kernel
theorem dX11_book_135 : decode cX11_book 135 = .ok (.getfield 23, 3) := by decide +kernel
theorem dX11_book_138 : decode cX11_book 138 = .ok (.bipush 49, 2) := by decide +kernel
theorem dX11_book_140 : decode cX11_book 140 = .ok (.iaload, 1) := by decide +kernel
theorem dX11_book_141 : decode cX11_book 141 = .ok (.ifCond .eq 13, 3) := by decide +kernel
theorem dX11_book_144 : decode cX11_book 144 = .ok (.aload_n 0, 1) := by decide +kernel
theorem dX11_book_145 : decode cX11_book 145 = .ok (.getfield 23, 3) := by decide +kernel
theorem dX11_book_148 : decode cX11_book 148 = .ok (.bipush 50, 2) := by decide +kernel
theorem dX11_book_150 : decode cX11_book 150 = .ok (.iaload, 1) := by decide +kernel
theorem dX11_book_151 : decode cX11_book 151 = .ok (.ifCond .ne 13, 3) := by decide +kernel
theorem dX11_book_154 : decode cX11_book 154 = .ok (.aload_n 0, 1) := by decide +kernel
theorem dX11_book_155 : decode cX11_book 155 = .ok (.bipush 6, 2) := by decide +kernel
theorem dX11_book_157 : decode cX11_book 157 = .ok (.aload_n 0, 1) := by decide +kernel
theorem dX11_book_158 : decode cX11_book 158 = .ok (.getfield 88, 3) := by decide +kernel
theorem dX11_book_161 : decode cX11_book 161 = .ok (.invokevirtual 134, 3) := by decide +kernel
theorem dX11_book_164 : decode cX11_book 164 = .ok (.aload_n 0, 1) := by decide +kernel
theorem dX11_book_165 : decode cX11_book 165 = .ok (.getfield 107, 3) := by decide +kernel
theorem dX11_book_168 : decode cX11_book 168 = .ok (.ifCond .eq 9, 3) := by decide +kernel
theorem dX11_book_171 : decode cX11_book 171 = .ok (.aload_n 0, 1) := by decide +kernel
theorem dX11_book_172 : decode cX11_book 172 = .ok (.iconst 4, 1) := by decide +kernel
theorem dX11_book_173 : decode cX11_book 173 = .ok (.invokevirtual 177, 3) := by decide +kernel
theorem dX11_book_176 : decode cX11_book 176 = .ok (.ireturn, 1) := by decide +kernel
theorem dX11_book_177 : decode cX11_book 177 = .ok (.iconst 0, 1) := by decide +kernel
theorem dX11_book_178 : decode cX11_book 178 = .ok (.istore_n 2, 1) := by decide +kernel
theorem dX11_book_179 : decode cX11_book 179 = .ok (.iload_n 2, 1) := by decide +kernel
theorem dX11_book_180 : decode cX11_book 180 = .ok (.sipush 346, 3) := by decide +kernel
theorem dX11_book_183 : decode cX11_book 183 = .ok (.if_icmp .ge 21, 3) := by decide +kernel
theorem dX11_book_186 : decode cX11_book 186 = .ok (.aload_n 0, 1) := by decide +kernel
theorem dX11_book_187 : decode cX11_book 187 = .ok (.getfield 20, 3) := by decide +kernel
theorem dX11_book_190 : decode cX11_book 190 = .ok (.iload_n 2, 1) := by decide +kernel
theorem dX11_book_191 : decode cX11_book 191 = .ok (.aload_n 0, 1) := by decide +kernel
theorem dX11_book_192 : decode cX11_book 192 = .ok (.getfield 23, 3) := by decide +kernel
theorem dX11_book_195 : decode cX11_book 195 = .ok (.iload_n 2, 1) := by decide +kernel
theorem dX11_book_196 : decode cX11_book 196 = .ok (.iaload, 1) := by decide +kernel
theorem dX11_book_197 : decode cX11_book 197 = .ok (.iastore, 1) := by decide +kernel
theorem dX11_book_198 : decode cX11_book 198 = .ok (.iinc 2 1, 3) := by decide +kernel
theorem dX11_book_201 : decode cX11_book 201 = .ok (.goto (-22), 3) := by decide +kernel
theorem dX11_book_204 : decode cX11_book 204 = .ok (.aload_n 0, 1) := by decide +kernel
theorem dX11_book_205 : decode cX11_book 205 = .ok (.iconst 1, 1) := by decide +kernel
theorem dX11_book_206 : decode cX11_book 206 = .ok (.putfield 183, 3) := by decide +kernel
theorem dX11_book_209 : decode cX11_book 209 = .ok (.aload_n 0, 1) := by decide +kernel
theorem dX11_book_210 : decode cX11_book 210 = .ok (.invokevirtual 186, 3) := by decide +kernel
theorem dX11_book_213 : decode cX11_book 213 = .ok (.aload_n 0, 1) := by decide +kernel
theorem dX11_book_214 : decode cX11_book 214 = .ok (.iconst 0, 1) := by decide +kernel
theorem dX11_book_215 : decode cX11_book 215 = .ok (.putfield 189, 3) := by decide +kernel
theorem dX11_book_218 : decode cX11_book 218 = .ok (.aload_n 0, 1) := by decide +kernel
theorem dX11_book_219 : decode cX11_book 219 = .ok (.iconst 0, 1) := by decide +kernel
theorem dX11_book_220 : decode cX11_book 220 = .ok (.putfield 192, 3) := by decide +kernel
theorem dX11_book_223 : decode cX11_book 223 = .ok (.aload_n 0, 1) := by decide +kernel
theorem dX11_book_224 : decode cX11_book 224 = .ok (.iconst 0, 1) := by decide +kernel
theorem dX11_book_225 : decode cX11_book 225 = .ok (.putfield 195, 3) := by decide +kernel
theorem dX11_book_228 : decode cX11_book 228 = .ok (.aload_n 0, 1) := by decide +kernel
theorem dX11_book_229 : decode cX11_book 229 = .ok (.getfield 20, 3) := by decide +kernel
theorem dX11_book_232 : decode cX11_book 232 = .ok (.bipush 50, 2) := by decide +kernel
theorem dX11_book_234 : decode cX11_book 234 = .ok (.iaload, 1) := by decide +kernel
theorem dX11_book_235 : decode cX11_book 235 = .ok (.ireturn, 1) := by decide +kernel
set_option maxRecDepth 20000 in
theorem ggX11_begins_X11_isWord : GoodIn wsX11_begins wsX11_isWord := goodIn_r _ [7, 2, 8, 9, 10, 11, 12, 13, 14, 15, 16, 17, 18, 19, 20, 21, 22, 23, 24, 25, 26, 27, 28, 29, 30, 31, 32, 33, 34, 35, 36, 37, 38, 39, 40, 41, 42, 43, 44, 45, 46, 47, 48, 49, 50, 51, 52, 53, 54, 55, 56, 57, 58, 59, 84, 85, 86, 87, 88, 89, 90, 91, 92, 93, 94, 95, 96, 97, 98, 99, 100, 101, 102, 103, 104, 105, 106, 107, 108, 109, 110, 111, 112, 113, 114, 115, 116, 117, 118, 119, 120, 121, 122, 123] (by decide +kernel) (by decide +kernel)
set_option maxRecDepth 20000 in
theorem gX11_begins_X11_isWord : GoodIn wsX11_begins (wsV RX11 124 RX11 yX11_isWord wsX11_isWord) := goodIn_app (goodIn_of _ (by decide +kernel)) ggX11_begins_X11_isWord
theorem dX11_begins_0 : decode cX11_begins 0 = .ok (.aload_n 0, 1) := by decide +kernel
theorem dX11_begins_1 : decode cX11_begins 1 = .ok (.aload_n 1, 1) := by decide +kernel
theorem dX11_begins_2 : decode cX11_begins 2 = .ok (.invokevirtual 124, 3) := by decide +kernel
theorem dX11_begins_5 : decode cX11_begins 5 = .ok (.ifCond .ne 5, 3) := by decide +kernel
theorem dX11_begins_8 : decode cX11_begins 8 = .ok (.iconst 0, 1) := by decide +kernel
theorem dX11_begins_9 : decode cX11_begins 9 = .ok (.ireturn, 1) := by decide +kernel
theorem dX11_begins_10 : decode cX11_begins 10 = .ok (.iload_n 2, 1) := by decide +kernel
theorem dX11_begins_11 : decode cX11_begins 11 = .ok (.ifCond .ne 12, 3) := by decide +kernel
theorem dX11_begins_14 : decode cX11_begins 14 = .ok (.aload_n 0, 1) := by decide +kernel
theorem dX11_begins_15 : decode cX11_begins 15 = .ok (.iload_n 3, 1) := by decide +kernel
theorem dX11_begins_16 : decode cX11_begins 16 = .ok (.aload_n 0, 1) := by decide +kernel
theorem dX11_begins_17 : decode cX11_begins 17 = .ok (.getfield 88, 3) := by decide +kernel
theorem dX11_begins_20 : decode cX11_begins 20 = .ok (.invokevirtual 134, 3) := by decide +kernel
theorem dX11_begins_23 : decode cX11_begins 23 = .ok (.aload_n 0, 1) := by decide +kernel
theorem dX11_begins_24 : decode cX11_begins 24 = .ok (.getfield 107, 3) := by decide +kernel
theorem dX11_begins_27 : decode cX11_begins 27 = .ok (.ifCond .ne 7, 3) := by decide +kernel
theorem dX11_begins_30 : decode cX11_begins 30 = .ok (.aload_n 0, 1) := by decide +kernel
theorem dX11_begins_31 : decode cX11_begins 31 = .ok (.invokevirtual 128, 3) := by decide +kernel
theorem dX11_begins_34 : decode cX11_begins 34 = .ok (.iconst 1, 1) := by decide +kernel
theorem dX11_begins_35 : decode cX11_begins 35 = .ok (.ireturn, 1) := by decide +kernel
set_option maxRecDepth 20000 in
theorem ggX11_readLine_X11_begins : GoodIn wsX11_readLine wsX11_begins := goodIn_r _ [7, 2, 8, 9, 10, 11, 6, 12, 13, 14, 15, 16, 17, 18, 19, 20, 21, 22, 23, 24, 25, 26, 27, 28, 29, 30, 31, 32, 33, 34, 35, 36, 37, 38, 39, 40, 41, 42, 43, 44, 45, 46, 47, 48, 49, 50, 51, 52, 53, 54, 55, 56, 57, 58, 59, 60, 61, 62, 63, 64, 65, 66, 67, 68, 69, 70, 71, 72, 73, 74, 75, 76, 77, 78, 79, 80, 81, 82, 83, 84, 85, 86, 87, 88, 155, 156, 157, 158, 159, 160, 161, 162, 163, 164, 165, 166, 167, 168, 169, 170, 171, 172, 173, 174, 175, 176, 177, 178, 179, 180, 181, 182, 183, 184, 185, 186, 187, 188, 189, 190, 191, 192, 193, 194] (by decide +kernel) (by decide +kernel)
set_option maxRecDepth 20000 in
theorem gX11_readLine_X11_begins : GoodIn wsX11_readLine (wsV RX11 198 RX11 yX11_begins wsX11_begins) := goodIn_app (goodIn_of _ (by decide +kernel)) ggX11_readLine_X11_begins
set_option maxRecDepth 20000 in
theorem ggX11_readLine_X11_isWord : GoodIn wsX11_readLine wsX11_isWord := goodIn_r _ [12, 8, 13, 14, 15, 16, 17, 18, 19, 20, 21, 22, 23, 24, 25, 26, 27, 28, 29, 30, 31, 32, 33, 34, 35, 36, 37, 38, 39, 40, 41, 42, 43, 44, 45, 46, 47, 48, 49, 50, 51, 52, 53, 54, 55, 56, 57, 58, 59, 60, 61, 62, 63, 64, 155, 156, 157, 158, 159, 160, 161, 162, 163, 164, 165, 166, 167, 168, 169, 170, 171, 172, 173, 174, 175, 176, 177, 178, 179, 180, 181, 182, 183, 184, 185, 186, 187, 188, 189, 190, 191, 192, 193, 194] (by decide +kernel) (by decide +kernel)
set_option maxRecDepth 20000 in
theorem gX11_readLine_X11_isWord : GoodIn wsX11_readLine (wsV RX11 124 RX11 yX11_isWord wsX11_isWord) := goodIn_app (goodIn_of _ (by decide +kernel)) ggX11_readLine_X11_isWord
set_option maxRecDepth 20000 in
theorem ggX11_readLine_X11_wrong : GoodIn wsX11_readLine wsX11_wrong := goodIn_r _ [68, 8, 69, 70, 155, 156, 157, 158, 159, 160, 161, 162, 163, 164, 165, 166, 167, 168, 169, 170, 171, 172, 173, 174, 175, 176, 177, 178, 179, 180, 181, 182, 183, 184, 185, 186, 187, 188, 189, 190, 191, 192, 193, 194] (by decide +kernel) (by decide +kernel)
set_option maxRecDepth 20000 in
theorem gX11_readLine_X11_wrong : GoodIn wsX11_readLine (wsV RX11 134 RX11 yX11_wrong wsX11_wrong) := goodIn_app (goodIn_of _ (by decide +kernel)) ggX11_readLine_X11_wrong
theorem dX11_readLine_0 : decode cX11_readLine 0 = .ok (.aload_n 0, 1) := by decide +kernel
theorem dX11_readLine_1 : decode cX11_readLine 1 = .ok (.ldc 138, 2) := by decide +kernel
theorem dX11_readLine_3 : decode cX11_readLine 3 = .ok (.aload_n 0, 1) := by decide +kernel
theorem dX11_readLine_4 : decode cX11_readLine 4 = .ok (.getfield 23, 3) := by decide +kernel
theorem dX11_readLine_7 : decode cX11_readLine 7 = .ok (.bipush 49, 2) := by decide +kernel
theorem dX11_readLine_9 : decode cX11_readLine 9 = .ok (.iaload, 1) := by decide +kernel
theorem dX11_readLine_10 : decode cX11_readLine 10 = .ok (.ifCond .ne 7, 3) := by decide +kernel
theorem dX11_readLine_13 : decode cX11_readLine 13 = .ok (.iconst 1, 1) := by decide +kernel
theorem dX11_readLine_14 : decode cX11_readLine 14 = .ok (.goto 4, 3) := by decide +kernel
theorem dX11_readLine_17 : decode cX11_readLine 17 = .ok (.iconst 0, 1) := by decide +kernel
theorem dX11_readLine_18 : decode cX11_readLine 18 = .ok (.iconst 3, 1) := by decide +kernel
theorem dX11_readLine_19 : decode cX11_readLine 19 = .ok (.invokevirtual 198, 3) := by decide +kernel
theorem dX11_readLine_22 : decode cX11_readLine 22 = .ok (.ifCond .eq 10, 3) := by decide +kernel
theorem dX11_readLine_25 : decode cX11_readLine 25 = .ok (.aload_n 0, 1) := by decide +kernel
theorem dX11_readLine_26 : decode cX11_readLine 26 = .ok (.invokevirtual 202, 3) := by decide +kernel
theorem dX11_readLine_29 : decode cX11_readLine 29 = .ok (.goto 177, 3) := by decide +kernel
theorem dX11_readLine_32 : decode cX11_readLine 32 = .ok (.aload_n 0, 1) := by decide +kernel
theorem dX11_readLine_33 : decode cX11_readLine 33 = .ok (.ldc 140, 2) := by decide +kernel
theorem dX11_readLine_35 : decode cX11_readLine 35 = .ok (.iconst 1, 1) := by decide +kernel
theorem dX11_readLine_36 : decode cX11_readLine 36 = .ok (.iconst 1, 1) := by decide +kernel
theorem dX11_readLine_37 : decode cX11_readLine 37 = .ok (.invokevirtual 198, 3) := by decide +kernel
theorem dX11_readLine_40 : decode cX11_readLine 40 = .ok (.ifCond .eq 15, 3) := by decide +kernel
theorem dX11_readLine_43 : decode cX11_readLine 43 = .ok (.aload_n 0, 1) := by decide +kernel
theorem dX11_readLine_44 : decode cX11_readLine 44 = .ok (.bipush 50, 2) := by decide +kernel
theorem dX11_readLine_46 : decode cX11_readLine 46 = .ok (.iconst 0, 1) := by decide +kernel
theorem dX11_readLine_47 : decode cX11_readLine 47 = .ok (.bipush 6, 2) := by decide +kernel
theorem dX11_readLine_49 : decode cX11_readLine 49 = .ok (.invokevirtual 205, 3) := by decide +kernel
theorem dX11_readLine_52 : decode cX11_readLine 52 = .ok (.goto 154, 3) := by decide +kernel
theorem dX11_readLine_55 : decode cX11_readLine 55 = .ok (.aload_n 0, 1) := by decide +kernel
theorem dX11_readLine_56 : decode cX11_readLine 56 = .ok (.ldc 142, 2) := by decide +kernel
theorem dX11_readLine_58 : decode cX11_readLine 58 = .ok (.iconst 1, 1) := by decide +kernel
theorem dX11_readLine_59 : decode cX11_readLine 59 = .ok (.iconst 1, 1) := by decide +kernel
theorem dX11_readLine_60 : decode cX11_readLine 60 = .ok (.invokevirtual 198, 3) := by decide +kernel
theorem dX11_readLine_63 : decode cX11_readLine 63 = .ok (.ifCond .eq 16, 3) := by decide +kernel
theorem dX11_readLine_66 : decode cX11_readLine 66 = .ok (.aload_n 0, 1) := by decide +kernel
theorem dX11_readLine_67 : decode cX11_readLine 67 = .ok (.bipush 51, 2) := by decide +kernel
theorem dX11_readLine_69 : decode cX11_readLine 69 = .ok (.bipush 6, 2) := by decide +kernel
theorem dX11_readLine_71 : decode cX11_readLine 71 = .ok (.bipush 9, 2) := by decide +kernel
theorem dX11_readLine_73 : decode cX11_readLine 73 = .ok (.invokevirtual 205, 3) := by decide +kernel
theorem dX11_readLine_76 : decode cX11_readLine 76 = .ok (.goto 130, 3) := by decide +kernel
theorem dX11_readLine_79 : decode cX11_readLine 79 = .ok (.aload_n 0, 1) := by decide +kernel
theorem dX11_readLine_80 : decode cX11_readLine 80 = .ok (.ldc 144, 2) := by decide +kernel
theorem dX11_readLine_82 : decode cX11_readLine 82 = .ok (.invokevirtual 124, 3) := by decide +kernel
theorem dX11_readLine_85 : decode cX11_readLine 85 = .ok (.ifCond .eq 10, 3) := by decide +kernel
theorem dX11_readLine_88 : decode cX11_readLine 88 = .ok (.aload_n 0, 1) := by decide +kernel
theorem dX11_readLine_89 : decode cX11_readLine 89 = .ok (.invokevirtual 209, 3) := by decide +kernel
theorem dX11_readLine_92 : decode cX11_readLine 92 = .ok (.goto 114, 3) := by decide +kernel
theorem dX11_readLine_95 : decode cX11_readLine 95 = .ok (.aload_n 0, 1) := by decide +kernel
theorem dX11_readLine_96 : decode cX11_readLine 96 = .ok (.ldc 146, 2) := by decide +kernel
theorem dX11_readLine_98 : decode cX11_readLine 98 = .ok (.aload_n 0, 1) := by decide +kernel
theorem dX11_readLine_99 : decode cX11_readLine 99 = .ok (.getfield 23, 3) := by decide +kernel
theorem dX11_readLine_102 : decode cX11_readLine 102 = .ok (.bipush 52, 2) := by decide +kernel
theorem dX11_readLine_104 : decode cX11_readLine 104 = .ok (.iaload, 1) := by decide +kernel
theorem dX11_readLine_105 : decode cX11_readLine 105 = .ok (.bipush 8, 2) := by decide +kernel
theorem dX11_readLine_107 : decode cX11_readLine 107 = .ok (.if_icmp .ge 7, 3) := by decide +kernel
theorem dX11_readLine_110 : decode cX11_readLine 110 = .ok (.iconst 1, 1) := by decide +kernel
theorem dX11_readLine_111 : decode cX11_readLine 111 = .ok (.goto 4, 3) := by decide +kernel
theorem dX11_readLine_114 : decode cX11_readLine 114 = .ok (.iconst 0, 1) := by decide +kernel
theorem dX11_readLine_115 : decode cX11_readLine 115 = .ok (.iconst 5, 1) := by decide +kernel
theorem dX11_readLine_116 : decode cX11_readLine 116 = .ok (.invokevirtual 198, 3) := by decide +kernel
theorem dX11_readLine_119 : decode cX11_readLine 119 = .ok (.ifCond .eq 10, 3) := by decide +kernel
theorem dX11_readLine_122 : decode cX11_readLine 122 = .ok (.aload_n 0, 1) := by decide +kernel
theorem dX11_readLine_123 : decode cX11_readLine 123 = .ok (.invokevirtual 212, 3) := by decide +kernel
theorem dX11_readLine_126 : decode cX11_readLine 126 = .ok (.goto 80, 3) := by decide +kernel
theorem dX11_readLine_129 : decode cX11_readLine 129 = .ok (.aload_n 0, 1) := by decide +kernel
theorem dX11_readLine_130 : decode cX11_readLine 130 = .ok (.ldc 148, 2) := by decide +kernel
theorem dX11_readLine_132 : decode cX11_readLine 132 = .ok (.aload_n 0, 1) := by decide +kernel
theorem dX11_readLine_133 : decode cX11_readLine 133 = .ok (.getfield 23, 3) := by decide +kernel
theorem dX11_readLine_136 : decode cX11_readLine 136 = .ok (.bipush 85, 2) := by decide +kernel
theorem dX11_readLine_138 : decode cX11_readLine 138 = .ok (.iaload, 1) := by decide +kernel
theorem dX11_readLine_139 : decode cX11_readLine 139 = .ok (.bipush 18, 2) := by decide +kernel
theorem dX11_readLine_141 : decode cX11_readLine 141 = .ok (.if_icmp .ge 7, 3) := by decide +kernel
theorem dX11_readLine_144 : decode cX11_readLine 144 = .ok (.iconst 1, 1) := by decide +kernel
theorem dX11_readLine_145 : decode cX11_readLine 145 = .ok (.goto 4, 3) := by decide +kernel
theorem dX11_readLine_148 : decode cX11_readLine 148 = .ok (.iconst 0, 1) := by decide +kernel
theorem dX11_readLine_149 : decode cX11_readLine 149 = .ok (.iconst 5, 1) := by decide +kernel
theorem dX11_readLine_150 : decode cX11_readLine 150 = .ok (.invokevirtual 198, 3) := by decide +kernel
theorem dX11_readLine_153 : decode cX11_readLine 153 = .ok (.ifCond .eq 10, 3) := by decide +kernel
theorem dX11_readLine_156 : decode cX11_readLine 156 = .ok (.aload_n 0, 1) := by decide +kernel
theorem dX11_readLine_157 : decode cX11_readLine 157 = .ok (.invokevirtual 215, 3) := by decide +kernel
theorem dX11_readLine_160 : decode cX11_readLine 160 = .ok (.goto 46, 3) := by decide +kernel
theorem dX11_readLine_163 : decode cX11_readLine 163 = .ok (.aload_n 0, 1) := by decide +kernel
theorem dX11_readLine_164 : decode cX11_readLine 164 = .ok (.ldc 150, 2) := by decide +kernel
theorem dX11_readLine_166 : decode cX11_readLine 166 = .ok (.aload_n 0, 1) := by decide +kernel
theorem dX11_readLine_167 : decode cX11_readLine 167 = .ok (.getfield 23, 3) := by decide +kernel
theorem dX11_readLine_170 : decode cX11_readLine 170 = .ok (.sipush 158, 3) := by decide +kernel
theorem dX11_readLine_173 : decode cX11_readLine 173 = .ok (.iaload, 1) := by decide +kernel
theorem dX11_readLine_174 : decode cX11_readLine 174 = .ok (.iconst 4, 1) := by decide +kernel
theorem dX11_readLine_175 : decode cX11_readLine 175 = .ok (.if_icmp .ge 7, 3) := by decide +kernel
theorem dX11_readLine_178 : decode cX11_readLine 178 = .ok (.iconst 1, 1) := by decide +kernel
theorem dX11_readLine_179 : decode cX11_readLine 179 = .ok (.goto 4, 3) := by decide +kernel
theorem dX11_readLine_182 : decode cX11_readLine 182 = .ok (.iconst 0, 1) := by decide +kernel
theorem dX11_readLine_183 : decode cX11_readLine 183 = .ok (.iconst 5, 1) := by decide +kernel
theorem dX11_readLine_184 : decode cX11_readLine 184 = .ok (.invokevirtual 198, 3) := by decide +kernel
theorem dX11_readLine_187 : decode cX11_readLine 187 = .ok (.ifCond .eq 10, 3) := by decide +kernel
theorem dX11_readLine_190 : decode cX11_readLine 190 = .ok (.aload_n 0, 1) := by decide +kernel
theorem dX11_readLine_191 : decode cX11_readLine 191 = .ok (.invokevirtual 218, 3) := by decide +kernel
theorem dX11_readLine_194 : decode cX11_readLine 194 = .ok (.goto 12, 3) := by decide +kernel
theorem dX11_readLine_197 : decode cX11_readLine 197 = .ok (.aload_n 0, 1) := by decide +kernel
theorem dX11_readLine_198 : decode cX11_readLine 198 = .ok (.iconst 1, 1) := by decide +kernel
theorem dX11_readLine_199 : decode cX11_readLine 199 = .ok (.aload_n 0, 1) := by decide +kernel
theorem dX11_readLine_200 : decode cX11_readLine 200 = .ok (.getfield 88, 3) := by decide +kernel
theorem dX11_readLine_203 : decode cX11_readLine 203 = .ok (.invokevirtual 134, 3) := by decide +kernel
theorem dX11_readLine_206 : decode cX11_readLine 206 = .ok (.return_, 1) := by decide +kernel
theorem dX11_fault_0 : decode cX11_fault 0 = .ok (.aload_n 0, 1) := by decide +kernel
theorem dX11_fault_1 : decode cX11_fault 1 = .ok (.iconst 0, 1) := by decide +kernel
theorem dX11_fault_2 : decode cX11_fault 2 = .ok (.putfield 69, 3) := by decide +kernel
theorem dX11_fault_5 : decode cX11_fault 5 = .ok (.aload_n 0, 1) := by decide +kernel
theorem dX11_fault_6 : decode cX11_fault 6 = .ok (.getfield 111, 3) := by decide +kernel
theorem dX11_fault_9 : decode cX11_fault 9 = .ok (.ireturn, 1) := by decide +kernel
theorem dX11_where_0 : decode cX11_where 0 = .ok (.aload_n 0, 1) := by decide +kernel
theorem dX11_where_1 : decode cX11_where 1 = .ok (.iconst 0, 1) := by decide +kernel
theorem dX11_where_2 : decode cX11_where 2 = .ok (.putfield 69, 3) := by decide +kernel
theorem dX11_where_5 : decode cX11_where 5 = .ok (.aload_n 0, 1) := by decide +kernel
theorem dX11_where_6 : decode cX11_where 6 = .ok (.getfield 72, 3) := by decide +kernel
theorem dX11_where_9 : decode cX11_where 9 = .ok (.iconst 4, 1) := by decide +kernel
theorem dX11_where_10 : decode cX11_where 10 = .ok (.if_icmp .ne 10, 3) := by decide +kernel
theorem dX11_where_13 : decode cX11_where 13 = .ok (.aload_n 0, 1) := by decide +kernel
theorem dX11_where_14 : decode cX11_where 14 = .ok (.getfield 13, 3) := by decide +kernel
theorem dX11_where_17 : decode cX11_where 17 = .ok (.goto 4, 3) := by decide +kernel
theorem dX11_where_20 : decode cX11_where 20 = .ok (.iconst (-1), 1) := by decide +kernel
theorem dX11_where_21 : decode cX11_where 21 = .ok (.ireturn, 1) := by decide +kernel
theorem dX11_isSet_0 : decode cX11_isSet 0 = .ok (.aload_n 0, 1) := by decide +kernel
theorem dX11_isSet_1 : decode cX11_isSet 1 = .ok (.getfield 183, 3) := by decide +kernel
theorem dX11_isSet_4 : decode cX11_isSet 4 = .ok (.ifCond .eq 23, 3) := by decide +kernel
theorem dX11_isSet_7 : decode cX11_isSet 7 = .ok (.iload_n 1, 1) := by decide +kernel
theorem dX11_isSet_8 : decode cX11_isSet 8 = .ok (.iconst 0, 1) := by decide +kernel
theorem dX11_isSet_9 : decode cX11_isSet 9 = .ok (.aload_n 0, 1) := by decide +kernel
theorem dX11_isSet_10 : decode cX11_isSet 10 = .ok (.getfield 20, 3) := by decide +kernel
theorem dX11_isSet_13 : decode cX11_isSet 13 = .ok (.iconst 0, 1) := by decide +kernel
theorem dX11_isSet_14 : decode cX11_isSet 14 = .ok (.iaload, 1) := by decide +kernel
theorem dX11_isSet_15 : decode cX11_isSet 15 = .ok (.iconst 1, 1) := by decide +kernel
theorem dX11_isSet_16 : decode cX11_isSet 16 = .ok (.isub, 1) := by decide +kernel
theorem dX11_isSet_17 : decode cX11_isSet 17 = .ok (.invokestatic 170, 3) := by decide +kernel
theorem dX11_isSet_20 : decode cX11_isSet 20 = .ok (.ifCond .eq 7, 3) := by decide +kernel
theorem dX11_isSet_23 : decode cX11_isSet 23 = .ok (.iconst 1, 1) := by decide +kernel
theorem dX11_isSet_24 : decode cX11_isSet 24 = .ok (.goto 4, 3) := by decide +kernel
theorem dX11_isSet_27 : decode cX11_isSet 27 = .ok (.iconst 0, 1) := by decide +kernel
theorem dX11_isSet_28 : decode cX11_isSet 28 = .ok (.ireturn, 1) := by decide +kernel
theorem dX11_isLook_0 : decode cX11_isLook 0 = .ok (.aload_n 0, 1) := by decide +kernel
theorem dX11_isLook_1 : decode cX11_isLook 1 = .ok (.getfield 183, 3) := by decide +kernel
theorem dX11_isLook_4 : decode cX11_isLook 4 = .ok (.ifCond .eq 24, 3) := by decide +kernel
theorem dX11_isLook_7 : decode cX11_isLook 7 = .ok (.iload_n 1, 1) := by decide +kernel
theorem dX11_isLook_8 : decode cX11_isLook 8 = .ok (.iconst 0, 1) := by decide +kernel
theorem dX11_isLook_9 : decode cX11_isLook 9 = .ok (.aload_n 0, 1) := by decide +kernel
theorem dX11_isLook_10 : decode cX11_isLook 10 = .ok (.getfield 20, 3) := by decide +kernel
theorem dX11_isLook_13 : decode cX11_isLook 13 = .ok (.bipush 50, 2) := by decide +kernel
theorem dX11_isLook_15 : decode cX11_isLook 15 = .ok (.iaload, 1) := by decide +kernel
theorem dX11_isLook_16 : decode cX11_isLook 16 = .ok (.iconst 1, 1) := by decide +kernel
theorem dX11_isLook_17 : decode cX11_isLook 17 = .ok (.isub, 1) := by decide +kernel
theorem dX11_isLook_18 : decode cX11_isLook 18 = .ok (.invokestatic 170, 3) := by decide +kernel
theorem dX11_isLook_21 : decode cX11_isLook 21 = .ok (.ifCond .eq 7, 3) := by decide +kernel
theorem dX11_isLook_24 : decode cX11_isLook 24 = .ok (.iconst 1, 1) := by decide +kernel
theorem dX11_isLook_25 : decode cX11_isLook 25 = .ok (.goto 4, 3) := by decide +kernel
theorem dX11_isLook_28 : decode cX11_isLook 28 = .ok (.iconst 0, 1) := by decide +kernel
theorem dX11_isLook_29 : decode cX11_isLook 29 = .ok (.ireturn, 1) := by decide +kernel
set_option maxRecDepth 20000 in
theorem ggX11_isOutcome_X11_isSet : GoodIn wsX11_isOutcome wsX11_isSet := goodIn_r _ [6, 7, 1, 8, 9, 5, 10, 14, 15, 16, 17, 18, 19, 20, 21, 22, 23, 24, 25, 26, 27, 28, 29, 30, 31, 32, 33, 34, 35, 36, 37, 38, 39, 40, 41, 42, 43, 44, 45, 46, 47, 48, 49, 50, 51, 52, 53] (by decide +kernel) (by decide +kernel)
set_option maxRecDepth 20000 in
theorem gX11_isOutcome_X11_isSet : GoodIn wsX11_isOutcome (wsV RX11 244 RX11 yX11_isSet wsX11_isSet) := goodIn_app (goodIn_of _ (by decide +kernel)) ggX11_isOutcome_X11_isSet
theorem dX11_isOutcome_0 : decode cX11_isOutcome 0 = .ok (.aload_n 0, 1) := by decide +kernel
theorem dX11_isOutcome_1 : decode cX11_isOutcome 1 = .ok (.iload_n 1, 1) := by decide +kernel
theorem dX11_isOutcome_2 : decode cX11_isOutcome 2 = .ok (.invokevirtual 244, 3) := by decide +kernel
theorem dX11_isOutcome_5 : decode cX11_isOutcome 5 = .ok (.ifCond .eq 25, 3) := by decide +kernel
theorem dX11_isOutcome_8 : decode cX11_isOutcome 8 = .ok (.iload_n 2, 1) := by decide +kernel
theorem dX11_isOutcome_9 : decode cX11_isOutcome 9 = .ok (.iconst 0, 1) := by decide +kernel
theorem dX11_isOutcome_10 : decode cX11_isOutcome 10 = .ok (.aload_n 0, 1) := by decide +kernel
theorem dX11_isOutcome_11 : decode cX11_isOutcome 11 = .ok (.getfield 20, 3) := by decide +kernel
theorem dX11_isOutcome_14 : decode cX11_isOutcome 14 = .ok (.iload_n 1, 1) := by decide +kernel
theorem dX11_isOutcome_15 : decode cX11_isOutcome 15 = .ok (.invokestatic 247, 3) := by decide +kernel
theorem dX11_isOutcome_18 : decode cX11_isOutcome 18 = .ok (.iconst 1, 1) := by decide +kernel
theorem dX11_isOutcome_19 : decode cX11_isOutcome 19 = .ok (.isub, 1) := by decide +kernel
theorem dX11_isOutcome_20 : decode cX11_isOutcome 20 = .ok (.invokestatic 170, 3) := by decide +kernel
theorem dX11_isOutcome_23 : decode cX11_isOutcome 23 = .ok (.ifCond .eq 7, 3) := by decide +kernel
theorem dX11_isOutcome_26 : decode cX11_isOutcome 26 = .ok (.iconst 1, 1) := by decide +kernel
theorem dX11_isOutcome_27 : decode cX11_isOutcome 27 = .ok (.goto 4, 3) := by decide +kernel
theorem dX11_isOutcome_30 : decode cX11_isOutcome 30 = .ok (.iconst 0, 1) := by decide +kernel
theorem dX11_isOutcome_31 : decode cX11_isOutcome 31 = .ok (.ireturn, 1) := by decide +kernel
set_option maxRecDepth 20000 in
theorem ggX11_share_X11_good : GoodIn wsX11_share wsX11_good := goodIn_r _ [11, 12, 13, 60, 61, 62, 63, 64, 65, 66, 67, 68, 69, 70, 71, 72, 73, 74, 75, 76, 77, 78, 79, 80, 81, 82, 83, 84, 85, 86, 87, 88, 89, 90, 91, 92, 93, 94, 95, 96, 97, 98, 99] (by decide +kernel) (by decide +kernel)
set_option maxRecDepth 20000 in
theorem gX11_share_X11_good : GoodIn wsX11_share (wsV RX11 174 RX11 yX11_good wsX11_good) := goodIn_app (goodIn_of _ (by decide +kernel)) ggX11_share_X11_good
set_option maxRecDepth 20000 in
theorem ggX11_share_X11_no : GoodIn wsX11_share wsX11_no := goodIn_r _ [17, 13, 60, 61, 62, 63, 64, 65, 66, 67, 68, 69, 70, 71, 72, 73, 74, 75, 76, 77, 78, 79, 80, 81, 82, 83, 84, 85, 86, 87, 88, 89, 90, 91, 92, 93, 94, 95, 96, 97, 98, 99] (by decide +kernel) (by decide +kernel)
set_option maxRecDepth 20000 in
theorem gX11_share_X11_no : GoodIn wsX11_share (wsV RX11 177 RX11 yX11_no wsX11_no) := goodIn_app (goodIn_of _ (by decide +kernel)) ggX11_share_X11_no
theorem dX11_share_0 : decode cX11_share 0 = .ok (.aload_n 0, 1) := by decide +kernel
theorem dX11_share_1 : decode cX11_share 1 = .ok (.invokevirtual 174, 3) := by decide +kernel
theorem dX11_share_4 : decode cX11_share 4 = .ok (.aload_n 0, 1) := by decide +kernel
theorem dX11_share_5 : decode cX11_share 5 = .ok (.getfield 183, 3) := by decide +kernel
theorem dX11_share_8 : decode cX11_share 8 = .ok (.ifCond .ne 9, 3) := by decide +kernel
theorem dX11_share_11 : decode cX11_share 11 = .ok (.aload_n 0, 1) := by decide +kernel
theorem dX11_share_12 : decode cX11_share 12 = .ok (.iconst 1, 1) := by decide +kernel
theorem dX11_share_13 : decode cX11_share 13 = .ok (.invokevirtual 177, 3) := by decide +kernel
theorem dX11_share_16 : decode cX11_share 16 = .ok (.ireturn, 1) := by decide +kernel
theorem dX11_share_17 : decode cX11_share 17 = .ok (.aload_n 0, 1) := by decide +kernel
theorem dX11_share_18 : decode cX11_share 18 = .ok (.invokevirtual 289, 3) := by decide +kernel
theorem dX11_share_21 : decode cX11_share 21 = .ok (.ifCond .eq 5, 3) := by decide +kernel
theorem dX11_share_24 : decode cX11_share 24 = .ok (.iconst 1, 1) := by decide +kernel
theorem dX11_share_25 : decode cX11_share 25 = .ok (.ireturn, 1) := by decide +kernel
theorem dX11_share_26 : decode cX11_share 26 = .ok (.aload_n 0, 1) := by decide +kernel
theorem dX11_share_27 : decode cX11_share 27 = .ok (.getfield 47, 3) := by decide +kernel
theorem dX11_share_30 : decode cX11_share 30 = .ok (.aload_n 0, 1) := by decide +kernel
theorem dX11_share_31 : decode cX11_share 31 = .ok (.getfield 254, 3) := by decide +kernel
theorem dX11_share_34 : decode cX11_share 34 = .ok (.aload_n 0, 1) := by decide +kernel
theorem dX11_share_35 : decode cX11_share 35 = .ok (.getfield 257, 3) := by decide +kernel
theorem dX11_share_38 : decode cX11_share 38 = .ok (.iconst 1, 1) := by decide +kernel
theorem dX11_share_39 : decode cX11_share 39 = .ok (.isub, 1) := by decide +kernel
theorem dX11_share_40 : decode cX11_share 40 = .ok (.invokestatic 260, 3) := by decide +kernel
theorem dX11_share_43 : decode cX11_share 43 = .ok (.laload, 1) := by decide +kernel
theorem dX11_share_44 : decode cX11_share 44 = .ok (.aload_n 0, 1) := by decide +kernel
theorem dX11_share_45 : decode cX11_share 45 = .ok (.getfield 268, 3) := by decide +kernel
theorem dX11_share_48 : decode cX11_share 48 = .ok (.aload_n 0, 1) := by decide +kernel
theorem dX11_share_49 : decode cX11_share 49 = .ok (.getfield 20, 3) := by decide +kernel
theorem dX11_share_52 : decode cX11_share 52 = .ok (.bipush 49, 2) := by decide +kernel
theorem dX11_share_54 : decode cX11_share 54 = .ok (.iaload, 1) := by decide +kernel
theorem dX11_share_55 : decode cX11_share 55 = .ok (.i2l, 1) := by decide +kernel
theorem dX11_share_56 : decode cX11_share 56 = .ok (.lmul, 1) := by decide +kernel
theorem dX11_share_57 : decode cX11_share 57 = .ok (.iload_n 1, 1) := by decide +kernel
theorem dX11_share_58 : decode cX11_share 58 = .ok (.invokestatic 292, 3) := by decide +kernel
theorem dX11_share_61 : decode cX11_share 61 = .ok (.ireturn, 1) := by decide +kernel
set_option maxRecDepth 20000 in
theorem ggX11_together_X11_good : GoodIn wsX11_together wsX11_good := goodIn_r _ [12, 13, 14, 70, 71, 72, 73, 74, 75, 76, 77, 78, 79, 80, 81, 82, 83, 84, 85, 86, 87, 88, 89, 90, 91, 92, 93, 94, 95, 96, 97, 98, 99, 100, 101, 102, 103, 104, 105, 106, 107, 108, 109] (by decide +kernel) (by decide +kernel)
set_option maxRecDepth 20000 in
theorem gX11_together_X11_good : GoodIn wsX11_together (wsV RX11 174 RX11 yX11_good wsX11_good) := goodIn_app (goodIn_of _ (by decide +kernel)) ggX11_together_X11_good
set_option maxRecDepth 20000 in
theorem ggX11_together_X11_isLook : GoodIn wsX11_together wsX11_isLook := goodIn_r _ [18, 19, 1, 20, 21, 11, 22, 70, 71, 72, 73, 74, 75, 76, 77, 78, 79, 80, 81, 82, 83, 84, 85, 86, 87, 88, 89, 90, 91, 92, 93, 94, 95, 96, 97, 98, 99, 100, 101, 102, 103, 104, 105, 106, 107, 108, 109] (by decide +kernel) (by decide +kernel)
set_option maxRecDepth 20000 in
theorem gX11_together_X11_isLook : GoodIn wsX11_together (wsV RX11 296 RX11 yX11_isLook wsX11_isLook) := goodIn_app (goodIn_of _ (by decide +kernel)) ggX11_together_X11_isLook
set_option maxRecDepth 20000 in
theorem ggX11_together_X11_no : GoodIn wsX11_together wsX11_no := goodIn_r _ [29, 14, 70, 71, 72, 73, 74, 75, 76, 77, 78, 79, 80, 81, 82, 83, 84, 85, 86, 87, 88, 89, 90, 91, 92, 93, 94, 95, 96, 97, 98, 99, 100, 101, 102, 103, 104, 105, 106, 107, 108, 109] (by decide +kernel) (by decide +kernel)
set_option maxRecDepth 20000 in
theorem gX11_together_X11_no : GoodIn wsX11_together (wsV RX11 177 RX11 yX11_no wsX11_no) := goodIn_app (goodIn_of _ (by decide +kernel)) ggX11_together_X11_no
theorem dX11_together_0 : decode cX11_together 0 = .ok (.aload_n 0, 1) := by decide +kernel
theorem dX11_together_1 : decode cX11_together 1 = .ok (.invokevirtual 174, 3) := by decide +kernel
theorem dX11_together_4 : decode cX11_together 4 = .ok (.aload_n 0, 1) := by decide +kernel
theorem dX11_together_5 : decode cX11_together 5 = .ok (.iload_n 1, 1) := by decide +kernel
theorem dX11_together_6 : decode cX11_together 6 = .ok (.invokevirtual 296, 3) := by decide +kernel
theorem dX11_together_9 : decode cX11_together 9 = .ok (.ifCond .eq 31, 3) := by decide +kernel
theorem dX11_together_12 : decode cX11_together 12 = .ok (.aload_n 0, 1) := by decide +kernel
theorem dX11_together_13 : decode cX11_together 13 = .ok (.iload_n 3, 1) := by decide +kernel
theorem dX11_together_14 : decode cX11_together 14 = .ok (.invokevirtual 296, 3) := by decide +kernel
theorem dX11_together_17 : decode cX11_together 17 = .ok (.ifCond .eq 23, 3) := by decide +kernel
theorem dX11_together_20 : decode cX11_together 20 = .ok (.iload_n 1, 1) := by decide +kernel
theorem dX11_together_21 : decode cX11_together 21 = .ok (.iload_n 3, 1) := by decide +kernel
theorem dX11_together_22 : decode cX11_together 22 = .ok (.if_icmp .eq 18, 3) := by decide +kernel
theorem dX11_together_25 : decode cX11_together 25 = .ok (.iload_n 2, 1) := by decide +kernel
theorem dX11_together_26 : decode cX11_together 26 = .ok (.invokestatic 299, 3) := by decide +kernel
theorem dX11_together_29 : decode cX11_together 29 = .ok (.ifCond .eq 11, 3) := by decide +kernel
theorem dX11_together_32 : decode cX11_together 32 = .ok (.iload 4, 2) := by decide +kernel
theorem dX11_together_34 : decode cX11_together 34 = .ok (.invokestatic 299, 3) := by decide +kernel
theorem dX11_together_37 : decode cX11_together 37 = .ok (.ifCond .ne 9, 3) := by decide +kernel
theorem dX11_together_40 : decode cX11_together 40 = .ok (.aload_n 0, 1) := by decide +kernel
theorem dX11_together_41 : decode cX11_together 41 = .ok (.iconst 1, 1) := by decide +kernel
theorem dX11_together_42 : decode cX11_together 42 = .ok (.invokevirtual 177, 3) := by decide +kernel
theorem dX11_together_45 : decode cX11_together 45 = .ok (.ireturn, 1) := by decide +kernel
theorem dX11_together_46 : decode cX11_together 46 = .ok (.aload_n 0, 1) := by decide +kernel
theorem dX11_together_47 : decode cX11_together 47 = .ok (.invokevirtual 289, 3) := by decide +kernel
theorem dX11_together_50 : decode cX11_together 50 = .ok (.ifCond .ne 10, 3) := by decide +kernel
theorem dX11_together_53 : decode cX11_together 53 = .ok (.aload_n 0, 1) := by decide +kernel
theorem dX11_together_54 : decode cX11_together 54 = .ok (.bipush 6, 2) := by decide +kernel
theorem dX11_together_56 : decode cX11_together 56 = .ok (.invokevirtual 177, 3) := by decide +kernel
theorem dX11_together_59 : decode cX11_together 59 = .ok (.ireturn, 1) := by decide +kernel
theorem dX11_together_60 : decode cX11_together 60 = .ok (.aload_n 0, 1) := by decide +kernel
theorem dX11_together_61 : decode cX11_together 61 = .ok (.getfield 20, 3) := by decide +kernel
theorem dX11_together_64 : decode cX11_together 64 = .ok (.iconst 0, 1) := by decide +kernel
theorem dX11_together_65 : decode cX11_together 65 = .ok (.iaload, 1) := by decide +kernel
theorem dX11_together_66 : decode cX11_together 66 = .ok (.ifCond .ne 19, 3) := by decide +kernel
theorem dX11_together_69 : decode cX11_together 69 = .ok (.iload 6, 2) := by decide +kernel
theorem dX11_together_71 : decode cX11_together 71 = .ok (.ifCond .ne 8, 3) := by decide +kernel
theorem dX11_together_74 : decode cX11_together 74 = .ok (.iload 5, 2) := by decide +kernel
theorem dX11_together_76 : decode cX11_together 76 = .ok (.ifCond .eq 7, 3) := by decide +kernel
theorem dX11_together_79 : decode cX11_together 79 = .ok (.iconst 1, 1) := by decide +kernel
theorem dX11_together_80 : decode cX11_together 80 = .ok (.goto 4, 3) := by decide +kernel
theorem dX11_together_83 : decode cX11_together 83 = .ok (.iconst 0, 1) := by decide +kernel
theorem dX11_together_84 : decode cX11_together 84 = .ok (.ireturn, 1) := by decide +kernel
theorem dX11_together_85 : decode cX11_together 85 = .ok (.iload 5, 2) := by decide +kernel
theorem dX11_together_87 : decode cX11_together 87 = .ok (.ifCond .eq 9, 3) := by decide +kernel
theorem dX11_together_90 : decode cX11_together 90 = .ok (.ldc2_w 266, 3) := by decide +kernel
theorem dX11_together_93 : decode cX11_together 93 = .ok (.goto 4, 3) := by decide +kernel
theorem dX11_together_96 : decode cX11_together 96 = .ok (.lconst 1, 1) := by decide +kernel
theorem dX11_together_97 : decode cX11_together 97 = .ok (.lstore 7, 2) := by decide +kernel
theorem dX11_together_99 : decode cX11_together 99 = .ok (.iconst 0, 1) := by decide +kernel
theorem dX11_together_100 : decode cX11_together 100 = .ok (.istore 9, 2) := by decide +kernel
theorem dX11_together_102 : decode cX11_together 102 = .ok (.iload 9, 2) := by decide +kernel
theorem dX11_together_104 : decode cX11_together 104 = .ok (.aload_n 0, 1) := by decide +kernel
theorem dX11_together_105 : decode cX11_together 105 = .ok (.getfield 257, 3) := by decide +kernel
theorem dX11_together_108 : decode cX11_together 108 = .ok (.if_icmp .ge 78, 3) := by decide +kernel
theorem dX11_together_111 : decode cX11_together 111 = .ok (.iload 9, 2) := by decide +kernel
theorem dX11_together_113 : decode cX11_together 113 = .ok (.aload_n 0, 1) := by decide +kernel
