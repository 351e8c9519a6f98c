set_option maxRecDepth 20000 in
theorem gL_law_X10_init : GoodIn lw_tbl (wsX10_init) := goodIn_sub (wl_X10_init) (by decide +kernel)
set_option maxRecDepth 20000 in
theorem gL_law_X11_init : GoodIn lw_tbl (wsX11_init) := goodIn_sub (wl_X11_init) (by decide +kernel)
set_option maxRecDepth 20000 in
theorem gL_law_X10_feed : GoodIn lw_tbl (wsV RL 19 RX10 yX10_feed wsX10_feed) := goodIn_sub (List.forall_mem_append.mpr ⟨List.forall_mem_cons.mpr ⟨tw_160, List.forall_mem_cons.mpr ⟨tw_159, List.forall_mem_cons.mpr ⟨tw_158, List.forall_mem_cons.mpr ⟨tw_157, fun _ h => absurd h List.not_mem_nil⟩⟩⟩⟩, wl_X10_feed⟩) (by decide +kernel)
set_option maxRecDepth 20000 in
theorem gL_law_X11_feed : GoodIn lw_tbl (wsV RL 23 RX11 yX11_feed wsX11_feed) := goodIn_sub (List.forall_mem_append.mpr ⟨List.forall_mem_cons.mpr ⟨tw_167, List.forall_mem_cons.mpr ⟨tw_166, List.forall_mem_cons.mpr ⟨tw_165, List.forall_mem_cons.mpr ⟨tw_164, fun _ h => absurd h List.not_mem_nil⟩⟩⟩⟩, wl_X11_feed⟩) (by decide +kernel)
set_option maxRecDepth 20000 in
theorem gL_law_X10_book : GoodIn lw_tbl (wsV RL 24 RX10 yX10_book wsX10_book) := goodIn_sub (List.forall_mem_append.mpr ⟨List.forall_mem_cons.mpr ⟨tw_452, List.forall_mem_cons.mpr ⟨tw_451, List.forall_mem_cons.mpr ⟨tw_450, List.forall_mem_cons.mpr ⟨tw_157, fun _ h => absurd h List.not_mem_nil⟩⟩⟩⟩, wl_X10_book⟩) (by decide +kernel)
set_option maxRecDepth 20000 in
theorem gL_law_X11_book : GoodIn lw_tbl (wsV RL 27 RX11 yX11_book wsX11_book) := goodIn_sub (List.forall_mem_append.mpr ⟨List.forall_mem_cons.mpr ⟨tw_587, List.forall_mem_cons.mpr ⟨tw_586, List.forall_mem_cons.mpr ⟨tw_585, List.forall_mem_cons.mpr ⟨tw_164, fun _ h => absurd h List.not_mem_nil⟩⟩⟩⟩, wl_X11_book⟩) (by decide +kernel)
set_option maxRecDepth 20000 in
theorem gL_law_X10_fault : GoodIn lw_tbl (wsV RL 28 RX10 yX10_fault wsX10_fault) := goodIn_sub (List.forall_mem_append.mpr ⟨List.forall_mem_cons.mpr ⟨tw_592, List.forall_mem_cons.mpr ⟨tw_591, List.forall_mem_cons.mpr ⟨tw_590, List.forall_mem_cons.mpr ⟨tw_157, fun _ h => absurd h List.not_mem_nil⟩⟩⟩⟩, wl_X10_fault⟩) (by decide +kernel)
set_option maxRecDepth 20000 in
theorem gL_law_X11_fault : GoodIn lw_tbl (wsV RL 32 RX11 yX11_fault wsX11_fault) := goodIn_sub (List.forall_mem_append.mpr ⟨List.forall_mem_cons.mpr ⟨tw_597, List.forall_mem_cons.mpr ⟨tw_596, List.forall_mem_cons.mpr ⟨tw_595, List.forall_mem_cons.mpr ⟨tw_164, fun _ h => absurd h List.not_mem_nil⟩⟩⟩⟩, wl_X11_fault⟩) (by decide +kernel)
set_option maxRecDepth 20000 in
theorem gL_law_X10_where : GoodIn lw_tbl (wsV RL 33 RX10 yX10_where wsX10_where) := goodIn_sub (List.forall_mem_append.mpr ⟨List.forall_mem_cons.mpr ⟨tw_603, List.forall_mem_cons.mpr ⟨tw_602, List.forall_mem_cons.mpr ⟨tw_601, List.forall_mem_cons.mpr ⟨tw_157, fun _ h => absurd h List.not_mem_nil⟩⟩⟩⟩, wl_X10_where⟩) (by decide +kernel)
set_option maxRecDepth 20000 in
theorem gL_law_X11_where : GoodIn lw_tbl (wsV RL 36 RX11 yX11_where wsX11_where) := goodIn_sub (List.forall_mem_append.mpr ⟨List.forall_mem_cons.mpr ⟨tw_608, List.forall_mem_cons.mpr ⟨tw_607, List.forall_mem_cons.mpr ⟨tw_606, List.forall_mem_cons.mpr ⟨tw_164, fun _ h => absurd h List.not_mem_nil⟩⟩⟩⟩, wl_X11_where⟩) (by decide +kernel)
set_option maxRecDepth 20000 in
theorem gL_law_X10_share : GoodIn lw_tbl (wsV RL 37 RX10 yX10_share wsX10_share) := goodIn_sub (List.forall_mem_append.mpr ⟨List.forall_mem_cons.mpr ⟨tw_689, List.forall_mem_cons.mpr ⟨tw_688, List.forall_mem_cons.mpr ⟨tw_687, List.forall_mem_cons.mpr ⟨tw_157, fun _ h => absurd h List.not_mem_nil⟩⟩⟩⟩, wl_X10_share⟩) (by decide +kernel)
set_option maxRecDepth 20000 in
theorem gL_law_X11_share : GoodIn lw_tbl (wsV RL 41 RX11 yX11_share wsX11_share) := goodIn_sub (List.forall_mem_append.mpr ⟨List.forall_mem_cons.mpr ⟨tw_739, List.forall_mem_cons.mpr ⟨tw_738, List.forall_mem_cons.mpr ⟨tw_737, List.forall_mem_cons.mpr ⟨tw_164, fun _ h => absurd h List.not_mem_nil⟩⟩⟩⟩, wl_X11_share⟩) (by decide +kernel)
set_option maxRecDepth 20000 in
theorem gL_law_X10_together : GoodIn lw_tbl (wsV RL 42 RX10 yX10_together wsX10_together) := goodIn_sub (List.forall_mem_append.mpr ⟨List.forall_mem_cons.mpr ⟨tw_765, List.forall_mem_cons.mpr ⟨tw_764, List.forall_mem_cons.mpr ⟨tw_763, List.forall_mem_cons.mpr ⟨tw_157, fun _ h => absurd h List.not_mem_nil⟩⟩⟩⟩, wl_X10_together⟩) (by decide +kernel)
set_option maxRecDepth 20000 in
theorem gL_law_X11_together : GoodIn lw_tbl (wsV RL 46 RX11 yX11_together wsX11_together) := goodIn_sub (List.forall_mem_append.mpr ⟨List.forall_mem_cons.mpr ⟨tw_776, List.forall_mem_cons.mpr ⟨tw_775, List.forall_mem_cons.mpr ⟨tw_774, List.forall_mem_cons.mpr ⟨tw_164, fun _ h => absurd h List.not_mem_nil⟩⟩⟩⟩, wl_X11_together⟩) (by decide +kernel)
set_option maxRecDepth 20000 in
theorem gL_law_X10_extend : GoodIn lw_tbl (wsV RL 47 RX10 yX10_extend wsX10_extend) := goodIn_sub (List.forall_mem_append.mpr ⟨List.forall_mem_cons.mpr ⟨tw_798, List.forall_mem_cons.mpr ⟨tw_797, List.forall_mem_cons.mpr ⟨tw_796, List.forall_mem_cons.mpr ⟨tw_157, fun _ h => absurd h List.not_mem_nil⟩⟩⟩⟩, wl_X10_extend⟩) (by decide +kernel)
set_option maxRecDepth 20000 in
theorem gL_law_X11_extend : GoodIn lw_tbl (wsV RL 51 RX11 yX11_extend wsX11_extend) := goodIn_sub (List.forall_mem_append.mpr ⟨List.forall_mem_cons.mpr ⟨tw_818, List.forall_mem_cons.mpr ⟨tw_817, List.forall_mem_cons.mpr ⟨tw_816, List.forall_mem_cons.mpr ⟨tw_164, fun _ h => absurd h List.not_mem_nil⟩⟩⟩⟩, wl_X11_extend⟩) (by decide +kernel)
set_option maxRecDepth 20000 in
theorem gL_law_X10_level : GoodIn lw_tbl (wsV RL 52 RX10 yX10_level wsX10_level) := goodIn_sub (List.forall_mem_append.mpr ⟨List.forall_mem_cons.mpr ⟨tw_826, List.forall_mem_cons.mpr ⟨tw_825, List.forall_mem_cons.mpr ⟨tw_824, List.forall_mem_cons.mpr ⟨tw_157, fun _ h => absurd h List.not_mem_nil⟩⟩⟩⟩, wl_X10_level⟩) (by decide +kernel)
set_option maxRecDepth 20000 in
theorem gL_law_X11_level : GoodIn lw_tbl (wsV RL 55 RX11 yX11_level wsX11_level) := goodIn_sub (List.forall_mem_append.mpr ⟨List.forall_mem_cons.mpr ⟨tw_830, List.forall_mem_cons.mpr ⟨tw_829, List.forall_mem_cons.mpr ⟨tw_828, List.forall_mem_cons.mpr ⟨tw_164, fun _ h => absurd h List.not_mem_nil⟩⟩⟩⟩, wl_X11_level⟩) (by decide +kernel)
set_option maxRecDepth 20000 in
theorem gL_law_X10_hidden : GoodIn lw_tbl (wsV RL 56 RX10 yX10_hidden wsX10_hidden) := goodIn_sub (List.forall_mem_append.mpr ⟨List.forall_mem_cons.mpr ⟨tw_838, List.forall_mem_cons.mpr ⟨tw_837, List.forall_mem_cons.mpr ⟨tw_836, List.forall_mem_cons.mpr ⟨tw_157, fun _ h => absurd h List.not_mem_nil⟩⟩⟩⟩, wl_X10_hidden⟩) (by decide +kernel)
set_option maxRecDepth 20000 in
theorem gL_law_X11_hidden : GoodIn lw_tbl (wsV RL 59 RX11 yX11_hidden wsX11_hidden) := goodIn_sub (List.forall_mem_append.mpr ⟨List.forall_mem_cons.mpr ⟨tw_846, List.forall_mem_cons.mpr ⟨tw_845, List.forall_mem_cons.mpr ⟨tw_844, List.forall_mem_cons.mpr ⟨tw_164, fun _ h => absurd h List.not_mem_nil⟩⟩⟩⟩, wl_X11_hidden⟩) (by decide +kernel)
set_option maxRecDepth 20000 in
theorem gL_law_X10_answer : GoodIn lw_tbl (wsV RL 60 RX10 yX10_answer wsX10_answer) := goodIn_sub (List.forall_mem_append.mpr ⟨List.forall_mem_cons.mpr ⟨tw_854, List.forall_mem_cons.mpr ⟨tw_853, List.forall_mem_cons.mpr ⟨tw_852, List.forall_mem_cons.mpr ⟨tw_157, fun _ h => absurd h List.not_mem_nil⟩⟩⟩⟩, wl_X10_answer⟩) (by decide +kernel)
set_option maxRecDepth 20000 in
theorem gL_law_X11_answer : GoodIn lw_tbl (wsV RL 63 RX11 yX11_answer wsX11_answer) := goodIn_sub (List.forall_mem_append.mpr ⟨List.forall_mem_cons.mpr ⟨tw_858, List.forall_mem_cons.mpr ⟨tw_857, List.forall_mem_cons.mpr ⟨tw_856, List.forall_mem_cons.mpr ⟨tw_164, fun _ h => absurd h List.not_mem_nil⟩⟩⟩⟩, wl_X11_answer⟩) (by decide +kernel)
set_option maxRecDepth 20000 in
theorem gL_law_X10_disturbed : GoodIn lw_tbl (wsV RL 64 RX10 yX10_disturbed wsX10_disturbed) := goodIn_sub (List.forall_mem_append.mpr ⟨List.forall_mem_cons.mpr ⟨tw_870, List.forall_mem_cons.mpr ⟨tw_869, List.forall_mem_cons.mpr ⟨tw_868, List.forall_mem_cons.mpr ⟨tw_157, fun _ h => absurd h List.not_mem_nil⟩⟩⟩⟩, wl_X10_disturbed⟩) (by decide +kernel)
set_option maxRecDepth 20000 in
theorem gL_law_X11_disturbed : GoodIn lw_tbl (wsV RL 67 RX11 yX11_disturbed wsX11_disturbed) := goodIn_sub (List.forall_mem_append.mpr ⟨List.forall_mem_cons.mpr ⟨tw_888, List.forall_mem_cons.mpr ⟨tw_887, List.forall_mem_cons.mpr ⟨tw_886, List.forall_mem_cons.mpr ⟨tw_164, fun _ h => absurd h List.not_mem_nil⟩⟩⟩⟩, wl_X11_disturbed⟩) (by decide +kernel)
set_option maxRecDepth 20000 in
theorem gL_law_X10_same : GoodIn lw_tbl (wsV RL 68 RX10 yX10_same wsX10_same) := goodIn_sub (List.forall_mem_append.mpr ⟨List.forall_mem_cons.mpr ⟨tw_913, List.forall_mem_cons.mpr ⟨tw_912, List.forall_mem_cons.mpr ⟨tw_911, List.forall_mem_cons.mpr ⟨tw_157, fun _ h => absurd h List.not_mem_nil⟩⟩⟩⟩, wl_X10_same⟩) (by decide +kernel)
set_option maxRecDepth 20000 in
theorem gL_law_X11_same : GoodIn lw_tbl (wsV RL 71 RX11 yX11_same wsX11_same) := goodIn_sub (List.forall_mem_append.mpr ⟨List.forall_mem_cons.mpr ⟨tw_932, List.forall_mem_cons.mpr ⟨tw_931, List.forall_mem_cons.mpr ⟨tw_930, List.forall_mem_cons.mpr ⟨tw_164, fun _ h => absurd h List.not_mem_nil⟩⟩⟩⟩, wl_X11_same⟩) (by decide +kernel)
set_option maxRecDepth 20000 in
theorem gL_law_X10_cycles : GoodIn lw_tbl (wsV RL 72 RX10 yX10_cycles wsX10_cycles) := goodIn_sub (List.forall_mem_append.mpr ⟨List.forall_mem_cons.mpr ⟨tw_960, List.forall_mem_cons.mpr ⟨tw_959, List.forall_mem_cons.mpr ⟨tw_958, List.forall_mem_cons.mpr ⟨tw_157, fun _ h => absurd h List.not_mem_nil⟩⟩⟩⟩, wl_X10_cycles⟩) (by decide +kernel)
set_option maxRecDepth 20000 in
theorem gL_law_X11_cycles : GoodIn lw_tbl (wsV RL 75 RX11 yX11_cycles wsX11_cycles) := goodIn_sub (List.forall_mem_append.mpr ⟨List.forall_mem_cons.mpr ⟨tw_975, List.forall_mem_cons.mpr ⟨tw_974, List.forall_mem_cons.mpr ⟨tw_973, List.forall_mem_cons.mpr ⟨tw_164, fun _ h => absurd h List.not_mem_nil⟩⟩⟩⟩, wl_X11_cycles⟩) (by decide +kernel)
set_option maxRecDepth 20000 in
theorem gL_law_X10_cycle : GoodIn lw_tbl (wsV RL 76 RX10 yX10_cycle wsX10_cycle) := goodIn_sub (List.forall_mem_append.mpr ⟨List.forall_mem_cons.mpr ⟨tw_983, List.forall_mem_cons.mpr ⟨tw_982, List.forall_mem_cons.mpr ⟨tw_981, List.forall_mem_cons.mpr ⟨tw_157, fun _ h => absurd h List.not_mem_nil⟩⟩⟩⟩, wl_X10_cycle⟩) (by decide +kernel)
set_option maxRecDepth 20000 in
theorem gL_law_X11_cycle : GoodIn lw_tbl (wsV RL 79 RX11 yX11_cycle wsX11_cycle) := goodIn_sub (List.forall_mem_append.mpr ⟨List.forall_mem_cons.mpr ⟨tw_987, List.forall_mem_cons.mpr ⟨tw_986, List.forall_mem_cons.mpr ⟨tw_985, List.forall_mem_cons.mpr ⟨tw_164, fun _ h => absurd h List.not_mem_nil⟩⟩⟩⟩, wl_X11_cycle⟩) (by decide +kernel)
set_option maxRecDepth 20000 in
theorem gL_law_X10_excess : GoodIn lw_tbl (wsV RL 80 RX10 yX10_excess wsX10_excess) := goodIn_sub (List.forall_mem_append.mpr ⟨List.forall_mem_cons.mpr ⟨tw_1005, List.forall_mem_cons.mpr ⟨tw_1004, List.forall_mem_cons.mpr ⟨tw_1003, List.forall_mem_cons.mpr ⟨tw_157, fun _ h => absurd h List.not_mem_nil⟩⟩⟩⟩, wl_X10_excess⟩) (by decide +kernel)
set_option maxRecDepth 20000 in
theorem gL_law_X11_excess : GoodIn lw_tbl (wsV RL 83 RX11 yX11_excess wsX11_excess) := goodIn_sub (List.forall_mem_append.mpr ⟨List.forall_mem_cons.mpr ⟨tw_1022, List.forall_mem_cons.mpr ⟨tw_1021, List.forall_mem_cons.mpr ⟨tw_1020, List.forall_mem_cons.mpr ⟨tw_164, fun _ h => absurd h List.not_mem_nil⟩⟩⟩⟩, wl_X11_excess⟩) (by decide +kernel)
set_option maxRecDepth 20000 in
theorem gL_law_X10_widest : GoodIn lw_tbl (wsV RL 84 RX10 yX10_widest wsX10_widest) := goodIn_sub (List.forall_mem_append.mpr ⟨List.forall_mem_cons.mpr ⟨tw_1031, List.forall_mem_cons.mpr ⟨tw_1030, List.forall_mem_cons.mpr ⟨tw_1029, List.forall_mem_cons.mpr ⟨tw_157, fun _ h => absurd h List.not_mem_nil⟩⟩⟩⟩, wl_X10_widest⟩) (by decide +kernel)
set_option maxRecDepth 20000 in
theorem gL_law_X11_widest : GoodIn lw_tbl (wsV RL 87 RX11 yX11_widest wsX11_widest) := goodIn_sub (List.forall_mem_append.mpr ⟨List.forall_mem_cons.mpr ⟨tw_1035, List.forall_mem_cons.mpr ⟨tw_1034, List.forall_mem_cons.mpr ⟨tw_1033, List.forall_mem_cons.mpr ⟨tw_164, fun _ h => absurd h List.not_mem_nil⟩⟩⟩⟩, wl_X11_widest⟩) (by decide +kernel)
set_option maxRecDepth 20000 in
theorem gL_law_X10_stake : GoodIn lw_tbl (wsV RL 88 RX10 yX10_stake wsX10_stake) := goodIn_sub (List.forall_mem_append.mpr ⟨List.forall_mem_cons.mpr ⟨tw_1048, List.forall_mem_cons.mpr ⟨tw_1047, List.forall_mem_cons.mpr ⟨tw_1046, List.forall_mem_cons.mpr ⟨tw_157, fun _ h => absurd h List.not_mem_nil⟩⟩⟩⟩, wl_X10_stake⟩) (by decide +kernel)
set_option maxRecDepth 20000 in
theorem gL_law_X11_stake : GoodIn lw_tbl (wsV RL 92 RX11 yX11_stake wsX11_stake) := goodIn_sub (List.forall_mem_append.mpr ⟨List.forall_mem_cons.mpr ⟨tw_1056, List.forall_mem_cons.mpr ⟨tw_1055, List.forall_mem_cons.mpr ⟨tw_1054, List.forall_mem_cons.mpr ⟨tw_164, fun _ h => absurd h List.not_mem_nil⟩⟩⟩⟩, wl_X11_stake⟩) (by decide +kernel)
set_option maxRecDepth 20000 in
theorem gL_law_X10_wins : GoodIn lw_tbl (wsV RL 93 RX10 yX10_wins wsX10_wins) := goodIn_sub (List.forall_mem_append.mpr ⟨List.forall_mem_cons.mpr ⟨tw_1074, List.forall_mem_cons.mpr ⟨tw_1073, List.forall_mem_cons.mpr ⟨tw_1072, List.forall_mem_cons.mpr ⟨tw_157, fun _ h => absurd h List.not_mem_nil⟩⟩⟩⟩, wl_X10_wins⟩) (by decide +kernel)
set_option maxRecDepth 20000 in
theorem gL_law_X11_wins : GoodIn lw_tbl (wsV RL 96 RX11 yX11_wins wsX11_wins) := goodIn_sub (List.forall_mem_append.mpr ⟨List.forall_mem_cons.mpr ⟨tw_1085, List.forall_mem_cons.mpr ⟨tw_1084, List.forall_mem_cons.mpr ⟨tw_1083, List.forall_mem_cons.mpr ⟨tw_164, fun _ h => absurd h List.not_mem_nil⟩⟩⟩⟩, wl_X11_wins⟩) (by decide +kernel)
set_option maxRecDepth 20000 in
theorem gL_law_X10_worst : GoodIn lw_tbl (wsV RL 97 RX10 yX10_worst wsX10_worst) := goodIn_sub (List.forall_mem_append.mpr ⟨List.forall_mem_cons.mpr ⟨tw_1098, List.forall_mem_cons.mpr ⟨tw_1097, List.forall_mem_cons.mpr ⟨tw_1096, List.forall_mem_cons.mpr ⟨tw_157, fun _ h => absurd h List.not_mem_nil⟩⟩⟩⟩, wl_X10_worst⟩) (by decide +kernel)
set_option maxRecDepth 20000 in
theorem gL_law_X11_worst : GoodIn lw_tbl (wsV RL 100 RX11 yX11_worst wsX11_worst) := goodIn_sub (List.forall_mem_append.mpr ⟨List.forall_mem_cons.mpr ⟨tw_1110, List.forall_mem_cons.mpr ⟨tw_1109, List.forall_mem_cons.mpr ⟨tw_1108, List.forall_mem_cons.mpr ⟨tw_164, fun _ h => absurd h List.not_mem_nil⟩⟩⟩⟩, wl_X11_worst⟩) (by decide +kernel)
set_option maxRecDepth 20000 in
theorem gL_law_X10_worstAt : GoodIn lw_tbl (wsV RL 101 RX10 yX10_worstAt wsX10_worstAt) := goodIn_sub (List.forall_mem_append.mpr ⟨List.forall_mem_cons.mpr ⟨tw_1114, List.forall_mem_cons.mpr ⟨tw_1113, List.forall_mem_cons.mpr ⟨tw_1112, List.forall_mem_cons.mpr ⟨tw_157, fun _ h => absurd h List.not_mem_nil⟩⟩⟩⟩, wl_X10_worstAt⟩) (by decide +kernel)
set_option maxRecDepth 20000 in
theorem gL_law_X11_worstAt : GoodIn lw_tbl (wsV RL 104 RX11 yX11_worstAt wsX11_worstAt) := goodIn_sub (List.forall_mem_append.mpr ⟨List.forall_mem_cons.mpr ⟨tw_1118, List.forall_mem_cons.mpr ⟨tw_1117, List.forall_mem_cons.mpr ⟨tw_1116, List.forall_mem_cons.mpr ⟨tw_164, fun _ h => absurd h List.not_mem_nil⟩⟩⟩⟩, wl_X11_worstAt⟩) (by decide +kernel)
set_option maxRecDepth 20000 in
theorem gL_law_X10_bars : GoodIn lw_tbl (wsV RL 105 RX10 yX10_bars wsX10_bars) := goodIn_sub (List.forall_mem_append.mpr ⟨List.forall_mem_cons.mpr ⟨tw_1126, List.forall_mem_cons.mpr ⟨tw_1125, List.forall_mem_cons.mpr ⟨tw_1124, List.forall_mem_cons.mpr ⟨tw_157, fun _ h => absurd h List.not_mem_nil⟩⟩⟩⟩, wl_X10_bars⟩) (by decide +kernel)
set_option maxRecDepth 20000 in
theorem gL_law_X11_bars : GoodIn lw_tbl (wsV RL 108 RX11 yX11_bars wsX11_bars) := goodIn_sub (List.forall_mem_append.mpr ⟨List.forall_mem_cons.mpr ⟨tw_1134, List.forall_mem_cons.mpr ⟨tw_1133, List.forall_mem_cons.mpr ⟨tw_1132, List.forall_mem_cons.mpr ⟨tw_164, fun _ h => absurd h List.not_mem_nil⟩⟩⟩⟩, wl_X11_bars⟩) (by decide +kernel)
set_option maxRecDepth 20000 in
theorem gL_law_X10_fair : GoodIn lw_tbl (wsV RL 109 RX10 yX10_fair wsX10_fair) := goodIn_sub (List.forall_mem_append.mpr ⟨List.forall_mem_cons.mpr ⟨tw_1139, List.forall_mem_cons.mpr ⟨tw_1138, List.forall_mem_cons.mpr ⟨tw_1137, List.forall_mem_cons.mpr ⟨tw_157, fun _ h => absurd h List.not_mem_nil⟩⟩⟩⟩, wl_X10_fair⟩) (by decide +kernel)
set_option maxRecDepth 20000 in
theorem gL_law_X11_fair : GoodIn lw_tbl (wsV RL 112 RX11 yX11_fair wsX11_fair) := goodIn_sub (List.forall_mem_append.mpr ⟨List.forall_mem_cons.mpr ⟨tw_1143, List.forall_mem_cons.mpr ⟨tw_1142, List.forall_mem_cons.mpr ⟨tw_1141, List.forall_mem_cons.mpr ⟨tw_164, fun _ h => absurd h List.not_mem_nil⟩⟩⟩⟩, wl_X11_fair⟩) (by decide +kernel)
set_option maxRecDepth 20000 in
theorem gL_law_X10_ways : GoodIn lw_tbl (wsV RL 113 RX10 yX10_ways wsX10_ways) := goodIn_sub (List.forall_mem_append.mpr ⟨List.forall_mem_cons.mpr ⟨tw_1149, List.forall_mem_cons.mpr ⟨tw_1148, List.forall_mem_cons.mpr ⟨tw_1147, List.forall_mem_cons.mpr ⟨tw_157, fun _ h => absurd h List.not_mem_nil⟩⟩⟩⟩, wl_X10_ways⟩) (by decide +kernel)
set_option maxRecDepth 20000 in
theorem gL_law_X11_ways : GoodIn lw_tbl (wsV RL 116 RX11 yX11_ways wsX11_ways) := goodIn_sub (List.forall_mem_append.mpr ⟨List.forall_mem_cons.mpr ⟨tw_1161, List.forall_mem_cons.mpr ⟨tw_1160, List.forall_mem_cons.mpr ⟨tw_1159, List.forall_mem_cons.mpr ⟨tw_164, fun _ h => absurd h List.not_mem_nil⟩⟩⟩⟩, wl_X11_ways⟩) (by decide +kernel)
set_option maxRecDepth 20000 in
theorem gL_law_X10_forced : GoodIn lw_tbl (wsV RL 117 RX10 yX10_forced wsX10_forced) := goodIn_sub (List.forall_mem_append.mpr ⟨List.forall_mem_cons.mpr ⟨tw_1173, List.forall_mem_cons.mpr ⟨tw_1172, List.forall_mem_cons.mpr ⟨tw_1171, List.forall_mem_cons.mpr ⟨tw_157, fun _ h => absurd h List.not_mem_nil⟩⟩⟩⟩, wl_X10_forced⟩) (by decide +kernel)
set_option maxRecDepth 20000 in
theorem gL_law_X11_forced : GoodIn lw_tbl (wsV RL 120 RX11 yX11_forced wsX11_forced) := goodIn_sub (List.forall_mem_append.mpr ⟨List.forall_mem_cons.mpr ⟨tw_1185, List.forall_mem_cons.mpr ⟨tw_1184, List.forall_mem_cons.mpr ⟨tw_1183, List.forall_mem_cons.mpr ⟨tw_164, fun _ h => absurd h List.not_mem_nil⟩⟩⟩⟩, wl_X11_forced⟩) (by decide +kernel)
set_option maxRecDepth 20000 in
theorem gL_law_X10_core : GoodIn lw_tbl (wsV RL 121 RX10 yX10_core wsX10_core) := goodIn_sub (List.forall_mem_append.mpr ⟨List.forall_mem_cons.mpr ⟨tw_1193, List.forall_mem_cons.mpr ⟨tw_1192, List.forall_mem_cons.mpr ⟨tw_1191, List.forall_mem_cons.mpr ⟨tw_157, fun _ h => absurd h List.not_mem_nil⟩⟩⟩⟩, wl_X10_core⟩) (by decide +kernel)
set_option maxRecDepth 20000 in
theorem gL_law_X11_core : GoodIn lw_tbl (wsV RL 124 RX11 yX11_core wsX11_core) := goodIn_sub (List.forall_mem_append.mpr ⟨List.forall_mem_cons.mpr ⟨tw_1201, List.forall_mem_cons.mpr ⟨tw_1200, List.forall_mem_cons.mpr ⟨tw_1199, List.forall_mem_cons.mpr ⟨tw_164, fun _ h => absurd h List.not_mem_nil⟩⟩⟩⟩, wl_X11_core⟩) (by decide +kernel)
set_option maxRecDepth 20000 in
theorem gL_law_X10_can : GoodIn lw_tbl (wsV RL 125 RX10 yX10_can wsX10_can) := goodIn_sub (List.forall_mem_append.mpr ⟨List.forall_mem_cons.mpr ⟨tw_1210, List.forall_mem_cons.mpr ⟨tw_1209, List.forall_mem_cons.mpr ⟨tw_1208, List.forall_mem_cons.mpr ⟨tw_157, fun _ h => absurd h List.not_mem_nil⟩⟩⟩⟩, wl_X10_can⟩) (by decide +kernel)
set_option maxRecDepth 20000 in
theorem gL_law_X11_can : GoodIn lw_tbl (wsV RL 128 RX11 yX11_can wsX11_can) := goodIn_sub (List.forall_mem_append.mpr ⟨List.forall_mem_cons.mpr ⟨tw_1214, List.forall_mem_cons.mpr ⟨tw_1213, List.forall_mem_cons.mpr ⟨tw_1212, List.forall_mem_cons.mpr ⟨tw_164, fun _ h => absurd h List.not_mem_nil⟩⟩⟩⟩, wl_X11_can⟩) (by decide +kernel)
set_option maxRecDepth 20000 in
theorem gL_law_X10_game : GoodIn lw_tbl (wsV RL 129 RX10 yX10_game wsX10_game) := goodIn_sub (List.forall_mem_append.mpr ⟨List.forall_mem_cons.mpr ⟨tw_1225, List.forall_mem_cons.mpr ⟨tw_1224, List.forall_mem_cons.mpr ⟨tw_1223, List.forall_mem_cons.mpr ⟨tw_157, fun _ h => absurd h List.not_mem_nil⟩⟩⟩⟩, wl_X10_game⟩) (by decide +kernel)
set_option maxRecDepth 20000 in
theorem gL_law_X11_game : GoodIn lw_tbl (wsV RL 132 RX11 yX11_game wsX11_game) := goodIn_sub (List.forall_mem_append.mpr ⟨List.forall_mem_cons.mpr ⟨tw_1232, List.forall_mem_cons.mpr ⟨tw_1231, List.forall_mem_cons.mpr ⟨tw_1230, List.forall_mem_cons.mpr ⟨tw_164, fun _ h => absurd h List.not_mem_nil⟩⟩⟩⟩, wl_X11_game⟩) (by decide +kernel)
set_option maxRecDepth 20000 in
theorem gL_law_X10_square : GoodIn lw_tbl (wsV RL 133 RX10 yX10_square wsX10_square) := goodIn_sub (List.forall_mem_append.mpr ⟨List.forall_mem_cons.mpr ⟨tw_1244, List.forall_mem_cons.mpr ⟨tw_1243, List.forall_mem_cons.mpr ⟨tw_1242, List.forall_mem_cons.mpr ⟨tw_157, fun _ h => absurd h List.not_mem_nil⟩⟩⟩⟩, wl_X10_square⟩) (by decide +kernel)
set_option maxRecDepth 20000 in
theorem gL_law_X11_square : GoodIn lw_tbl (wsV RL 136 RX11 yX11_square wsX11_square) := goodIn_sub (List.forall_mem_append.mpr ⟨List.forall_mem_cons.mpr ⟨tw_1256, List.forall_mem_cons.mpr ⟨tw_1255, List.forall_mem_cons.mpr ⟨tw_1254, List.forall_mem_cons.mpr ⟨tw_164, fun _ h => absurd h List.not_mem_nil⟩⟩⟩⟩, wl_X11_square⟩) (by decide +kernel)
set_option maxRecDepth 20000 in
theorem gL_law_X10_corners : GoodIn lw_tbl (wsV RL 137 RX10 yX10_corners wsX10_corners) := goodIn_sub (List.forall_mem_append.mpr ⟨List.forall_mem_cons.mpr ⟨tw_1261, List.forall_mem_cons.mpr ⟨tw_1260, List.forall_mem_cons.mpr ⟨tw_1259, List.forall_mem_cons.mpr ⟨tw_157, fun _ h => absurd h List.not_mem_nil⟩⟩⟩⟩, wl_X10_corners⟩) (by decide +kernel)
set_option maxRecDepth 20000 in
theorem gL_law_X11_corners : GoodIn lw_tbl (wsV RL 140 RX11 yX11_corners wsX11_corners) := goodIn_sub (List.forall_mem_append.mpr ⟨List.forall_mem_cons.mpr ⟨tw_1276, List.forall_mem_cons.mpr ⟨tw_1275, List.forall_mem_cons.mpr ⟨tw_1274, List.forall_mem_cons.mpr ⟨tw_164, fun _ h => absurd h List.not_mem_nil⟩⟩⟩⟩, wl_X11_corners⟩) (by decide +kernel)
set_option maxRecDepth 20000 in
theorem gL_law_X10_colours : GoodIn lw_tbl (wsV RL 141 RX10 yX10_colours wsX10_colours) := goodIn_sub (List.forall_mem_append.mpr ⟨List.forall_mem_cons.mpr ⟨tw_1308, List.forall_mem_cons.mpr ⟨tw_1307, List.forall_mem_cons.mpr ⟨tw_1306, List.forall_mem_cons.mpr ⟨tw_157, fun _ h => absurd h List.not_mem_nil⟩⟩⟩⟩, wl_X10_colours⟩) (by decide +kernel)
set_option maxRecDepth 20000 in
theorem gL_law_X11_colours : GoodIn lw_tbl (wsV RL 144 RX11 yX11_colours wsX11_colours) := goodIn_sub (List.forall_mem_append.mpr ⟨List.forall_mem_cons.mpr ⟨tw_1328, List.forall_mem_cons.mpr ⟨tw_1327, List.forall_mem_cons.mpr ⟨tw_1326, List.forall_mem_cons.mpr ⟨tw_164, fun _ h => absurd h List.not_mem_nil⟩⟩⟩⟩, wl_X11_colours⟩) (by decide +kernel)
set_option maxRecDepth 20000 in
theorem gL_law_X10_ones : GoodIn lw_tbl (wsV RL 145 RX10 yX10_ones wsX10_ones) := goodIn_sub (List.forall_mem_append.mpr ⟨List.forall_mem_cons.mpr ⟨tw_1333, List.forall_mem_cons.mpr ⟨tw_1332, List.forall_mem_cons.mpr ⟨tw_1331, List.forall_mem_cons.mpr ⟨tw_157, fun _ h => absurd h List.not_mem_nil⟩⟩⟩⟩, wl_X10_ones⟩) (by decide +kernel)
set_option maxRecDepth 20000 in
theorem gL_law_X11_ones : GoodIn lw_tbl (wsV RL 148 RX11 yX11_ones wsX11_ones) := goodIn_sub (List.forall_mem_append.mpr ⟨List.forall_mem_cons.mpr ⟨tw_1337, List.forall_mem_cons.mpr ⟨tw_1336, List.forall_mem_cons.mpr ⟨tw_1335, List.forall_mem_cons.mpr ⟨tw_164, fun _ h => absurd h List.not_mem_nil⟩⟩⟩⟩, wl_X11_ones⟩) (by decide +kernel)
set_option maxRecDepth 20000 in
theorem gL_law_X10_spare : GoodIn lw_tbl (wsV RL 149 RX10 yX10_spare wsX10_spare) := goodIn_sub (List.forall_mem_append.mpr ⟨List.forall_mem_cons.mpr ⟨tw_1342, List.forall_mem_cons.mpr ⟨tw_1341, List.forall_mem_cons.mpr ⟨tw_1340, List.forall_mem_cons.mpr ⟨tw_157, fun _ h => absurd h List.not_mem_nil⟩⟩⟩⟩, wl_X10_spare⟩) (by decide +kernel)
set_option maxRecDepth 20000 in
theorem gL_law_X11_spare : GoodIn lw_tbl (wsV RL 152 RX11 yX11_spare wsX11_spare) := goodIn_sub (List.forall_mem_append.mpr ⟨List.forall_mem_cons.mpr ⟨tw_1350, List.forall_mem_cons.mpr ⟨tw_1349, List.forall_mem_cons.mpr ⟨tw_1348, List.forall_mem_cons.mpr ⟨tw_164, fun _ h => absurd h List.not_mem_nil⟩⟩⟩⟩, wl_X11_spare⟩) (by decide +kernel)
set_option maxRecDepth 20000 in
theorem gL_law_X10_critical : GoodIn lw_tbl (wsV RL 153 RX10 yX10_critical wsX10_critical) := goodIn_sub (List.forall_mem_append.mpr ⟨List.forall_mem_cons.mpr ⟨tw_1355, List.forall_mem_cons.mpr ⟨tw_1354, List.forall_mem_cons.mpr ⟨tw_1353, List.forall_mem_cons.mpr ⟨tw_157, fun _ h => absurd h List.not_mem_nil⟩⟩⟩⟩, wl_X10_critical⟩) (by decide +kernel)
set_option maxRecDepth 20000 in
theorem gL_law_X11_critical : GoodIn lw_tbl (wsV RL 156 RX11 yX11_critical wsX11_critical) := goodIn_sub (List.forall_mem_append.mpr ⟨List.forall_mem_cons.mpr ⟨tw_1359, List.forall_mem_cons.mpr ⟨tw_1358, List.forall_mem_cons.mpr ⟨tw_1357, List.forall_mem_cons.mpr ⟨tw_164, fun _ h => absurd h List.not_mem_nil⟩⟩⟩⟩, wl_X11_critical⟩) (by decide +kernel)
set_option maxRecDepth 20000 in
theorem gL_law_X10_memory : GoodIn lw_tbl (wsV RL 157 RX10 yX10_memory wsX10_memory) := goodIn_sub (List.forall_mem_append.mpr ⟨List.forall_mem_cons.mpr ⟨tw_1379, List.forall_mem_cons.mpr ⟨tw_1378, List.forall_mem_cons.mpr ⟨tw_1377, List.forall_mem_cons.mpr ⟨tw_157, fun _ h => absurd h List.not_mem_nil⟩⟩⟩⟩, wl_X10_memory⟩) (by decide +kernel)
set_option maxRecDepth 20000 in
theorem gL_law_X11_memory : GoodIn lw_tbl (wsV RL 160 RX11 yX11_memory wsX11_memory) := goodIn_sub (List.forall_mem_append.mpr ⟨List.forall_mem_cons.mpr ⟨tw_1391, List.forall_mem_cons.mpr ⟨tw_1390, List.forall_mem_cons.mpr ⟨tw_1389, List.forall_mem_cons.mpr ⟨tw_164, fun _ h => absurd h List.not_mem_nil⟩⟩⟩⟩, wl_X11_memory⟩) (by decide +kernel)
set_option maxRecDepth 20000 in
theorem gL_law_X10_machine : GoodIn lw_tbl (wsV RL 161 RX10 yX10_machine wsX10_machine) := goodIn_sub (List.forall_mem_append.mpr ⟨List.forall_mem_cons.mpr ⟨tw_1399, List.forall_mem_cons.mpr ⟨tw_1398, List.forall_mem_cons.mpr ⟨tw_1397, List.forall_mem_cons.mpr ⟨tw_157, fun _ h => absurd h List.not_mem_nil⟩⟩⟩⟩, wl_X10_machine⟩) (by decide +kernel)
set_option maxRecDepth 20000 in
theorem gL_law_X11_machine : GoodIn lw_tbl (wsV RL 165 RX11 yX11_machine wsX11_machine) := goodIn_sub (List.forall_mem_append.mpr ⟨List.forall_mem_cons.mpr ⟨tw_1413, List.forall_mem_cons.mpr ⟨tw_1412, List.forall_mem_cons.mpr ⟨tw_1411, List.forall_mem_cons.mpr ⟨tw_164, fun _ h => absurd h List.not_mem_nil⟩⟩⟩⟩, wl_X11_machine⟩) (by decide +kernel)
set_option maxRecDepth 20000 in
theorem gL_law_X10_flip : GoodIn lw_tbl (wsV RL 166 RX10 yX10_flip wsX10_flip) := goodIn_sub (List.forall_mem_append.mpr ⟨List.forall_mem_cons.mpr ⟨tw_1437, List.forall_mem_cons.mpr ⟨tw_1436, List.forall_mem_cons.mpr ⟨tw_1435, List.forall_mem_cons.mpr ⟨tw_157, fun _ h => absurd h List.not_mem_nil⟩⟩⟩⟩, wl_X10_flip⟩) (by decide +kernel)
set_option maxRecDepth 20000 in
theorem gL_law_X11_flip : GoodIn lw_tbl (wsV RL 170 RX11 yX11_flip wsX11_flip) := goodIn_sub (List.forall_mem_append.mpr ⟨List.forall_mem_cons.mpr ⟨tw_1454, List.forall_mem_cons.mpr ⟨tw_1453, List.forall_mem_cons.mpr ⟨tw_1452, List.forall_mem_cons.mpr ⟨tw_164, fun _ h => absurd h List.not_mem_nil⟩⟩⟩⟩, wl_X11_flip⟩) (by decide +kernel)
set_option maxRecDepth 20000 in
theorem gL_law_X10_drop : GoodIn lw_tbl (wsV RL 171 RX10 yX10_drop wsX10_drop) := goodIn_sub (List.forall_mem_append.mpr ⟨List.forall_mem_cons.mpr ⟨tw_1463, List.forall_mem_cons.mpr ⟨tw_1462, List.forall_mem_cons.mpr ⟨tw_1461, List.forall_mem_cons.mpr ⟨tw_157, fun _ h => absurd h List.not_mem_nil⟩⟩⟩⟩, wl_X10_drop⟩) (by decide +kernel)
set_option maxRecDepth 20000 in
theorem gL_law_X11_drop : GoodIn lw_tbl (wsV RL 174 RX11 yX11_drop wsX11_drop) := goodIn_sub (List.forall_mem_append.mpr ⟨List.forall_mem_cons.mpr ⟨tw_1471, List.forall_mem_cons.mpr ⟨tw_1470, List.forall_mem_cons.mpr ⟨tw_1469, List.forall_mem_cons.mpr ⟨tw_164, fun _ h => absurd h List.not_mem_nil⟩⟩⟩⟩, wl_X11_drop⟩) (by decide +kernel)
set_option maxRecDepth 20000 in
theorem gL_law_X10_forget : GoodIn lw_tbl (wsV RL 175 RX10 yX10_forget wsX10_forget) := goodIn_sub (List.forall_mem_append.mpr ⟨List.forall_mem_cons.mpr ⟨tw_1488, List.forall_mem_cons.mpr ⟨tw_1487, List.forall_mem_cons.mpr ⟨tw_1486, List.forall_mem_cons.mpr ⟨tw_157, fun _ h => absurd h List.not_mem_nil⟩⟩⟩⟩, wl_X10_forget⟩) (by decide +kernel)
set_option maxRecDepth 20000 in
theorem gL_law_X11_forget : GoodIn lw_tbl (wsV RL 178 RX11 yX11_forget wsX11_forget) := goodIn_sub (List.forall_mem_append.mpr ⟨List.forall_mem_cons.mpr ⟨tw_1492, List.forall_mem_cons.mpr ⟨tw_1491, List.forall_mem_cons.mpr ⟨tw_1490, List.forall_mem_cons.mpr ⟨tw_164, fun _ h => absurd h List.not_mem_nil⟩⟩⟩⟩, wl_X11_forget⟩) (by decide +kernel)
set_option maxRecDepth 20000 in
theorem gL_law_X10_shift : GoodIn lw_tbl (wsV RL 179 RX10 yX10_shift wsX10_shift) := goodIn_sub (List.forall_mem_append.mpr ⟨List.forall_mem_cons.mpr ⟨tw_1505, List.forall_mem_cons.mpr ⟨tw_1504, List.forall_mem_cons.mpr ⟨tw_1503, List.forall_mem_cons.mpr ⟨tw_157, fun _ h => absurd h List.not_mem_nil⟩⟩⟩⟩, wl_X10_shift⟩) (by decide +kernel)
set_option maxRecDepth 20000 in
theorem gL_law_X11_shift : GoodIn lw_tbl (wsV RL 183 RX11 yX11_shift wsX11_shift) := goodIn_sub (List.forall_mem_append.mpr ⟨List.forall_mem_cons.mpr ⟨tw_1509, List.forall_mem_cons.mpr ⟨tw_1508, List.forall_mem_cons.mpr ⟨tw_1507, List.forall_mem_cons.mpr ⟨tw_164, fun _ h => absurd h List.not_mem_nil⟩⟩⟩⟩, wl_X11_shift⟩) (by decide +kernel)
set_option maxRecDepth 20000 in
theorem gL_law_X10_undo : GoodIn lw_tbl (wsV RL 184 RX10 yX10_undo wsX10_undo) := goodIn_sub (List.forall_mem_append.mpr ⟨List.forall_mem_cons.mpr ⟨tw_1521, List.forall_mem_cons.mpr ⟨tw_1520, List.forall_mem_cons.mpr ⟨tw_1519, List.forall_mem_cons.mpr ⟨tw_157, fun _ h => absurd h List.not_mem_nil⟩⟩⟩⟩, wl_X10_undo⟩) (by decide +kernel)
set_option maxRecDepth 20000 in
theorem gL_law_X11_undo : GoodIn lw_tbl (wsV RL 188 RX11 yX11_undo wsX11_undo) := goodIn_sub (List.forall_mem_append.mpr ⟨List.forall_mem_cons.mpr ⟨tw_1527, List.forall_mem_cons.mpr ⟨tw_1526, List.forall_mem_cons.mpr ⟨tw_1525, List.forall_mem_cons.mpr ⟨tw_164, fun _ h => absurd h List.not_mem_nil⟩⟩⟩⟩, wl_X11_undo⟩) (by decide +kernel)
set_option maxRecDepth 20000 in
theorem gL_law_X10_redo : GoodIn lw_tbl (wsV RL 189 RX10 yX10_redo wsX10_redo) := goodIn_sub (List.forall_mem_append.mpr ⟨List.forall_mem_cons.mpr ⟨tw_1535, List.forall_mem_cons.mpr ⟨tw_1534, List.forall_mem_cons.mpr ⟨tw_1533, List.forall_mem_cons.mpr ⟨tw_157, fun _ h => absurd h List.not_mem_nil⟩⟩⟩⟩, wl_X10_redo⟩) (by decide +kernel)
set_option maxRecDepth 20000 in
theorem gL_law_X11_redo : GoodIn lw_tbl (wsV RL 192 RX11 yX11_redo wsX11_redo) := goodIn_sub (List.forall_mem_append.mpr ⟨List.forall_mem_cons.mpr ⟨tw_1539, List.forall_mem_cons.mpr ⟨tw_1538, List.forall_mem_cons.mpr ⟨tw_1537, List.forall_mem_cons.mpr ⟨tw_164, fun _ h => absurd h List.not_mem_nil⟩⟩⟩⟩, wl_X11_redo⟩) (by decide +kernel)
set_option maxRecDepth 20000 in
theorem gL_law_X10_mark : GoodIn lw_tbl (wsV RL 193 RX10 yX10_mark wsX10_mark) := goodIn_sub (List.forall_mem_append.mpr ⟨List.forall_mem_cons.mpr ⟨tw_1548, List.forall_mem_cons.mpr ⟨tw_1547, List.forall_mem_cons.mpr ⟨tw_1546, List.forall_mem_cons.mpr ⟨tw_157, fun _ h => absurd h List.not_mem_nil⟩⟩⟩⟩, wl_X10_mark⟩) (by decide +kernel)
set_option maxRecDepth 20000 in
theorem gL_law_X11_mark : GoodIn lw_tbl (wsV RL 196 RX11 yX11_mark wsX11_mark) := goodIn_sub (List.forall_mem_append.mpr ⟨List.forall_mem_cons.mpr ⟨tw_1556, List.forall_mem_cons.mpr ⟨tw_1555, List.forall_mem_cons.mpr ⟨tw_1554, List.forall_mem_cons.mpr ⟨tw_164, fun _ h => absurd h List.not_mem_nil⟩⟩⟩⟩, wl_X11_mark⟩) (by decide +kernel)
set_option maxRecDepth 20000 in
theorem gL_law_X10_back : GoodIn lw_tbl (wsV RL 197 RX10 yX10_back wsX10_back) := goodIn_sub (List.forall_mem_append.mpr ⟨List.forall_mem_cons.mpr ⟨tw_1564, List.forall_mem_cons.mpr ⟨tw_1563, List.forall_mem_cons.mpr ⟨tw_1562, List.forall_mem_cons.mpr ⟨tw_157, fun _ h => absurd h List.not_mem_nil⟩⟩⟩⟩, wl_X10_back⟩) (by decide +kernel)
set_option maxRecDepth 20000 in
theorem gL_law_X11_back : GoodIn lw_tbl (wsV RL 200 RX11 yX11_back wsX11_back) := goodIn_sub (List.forall_mem_append.mpr ⟨List.forall_mem_cons.mpr ⟨tw_1569, List.forall_mem_cons.mpr ⟨tw_1568, List.forall_mem_cons.mpr ⟨tw_1567, List.forall_mem_cons.mpr ⟨tw_164, fun _ h => absurd h List.not_mem_nil⟩⟩⟩⟩, wl_X11_back⟩) (by decide +kernel)
set_option maxRecDepth 20000 in
theorem gL_law_X10_act : GoodIn lw_tbl (wsV RL 201 RX10 yX10_act wsX10_act) := goodIn_sub (List.forall_mem_append.mpr ⟨List.forall_mem_cons.mpr ⟨tw_1576, List.forall_mem_cons.mpr ⟨tw_1575, List.forall_mem_cons.mpr ⟨tw_1574, List.forall_mem_cons.mpr ⟨tw_157, fun _ h => absurd h List.not_mem_nil⟩⟩⟩⟩, wl_X10_act⟩) (by decide +kernel)
set_option maxRecDepth 20000 in
theorem gL_law_X11_act : GoodIn lw_tbl (wsV RL 204 RX11 yX11_act wsX11_act) := goodIn_sub (List.forall_mem_append.mpr ⟨List.forall_mem_cons.mpr ⟨tw_1581, List.forall_mem_cons.mpr ⟨tw_1580, List.forall_mem_cons.mpr ⟨tw_1579, List.forall_mem_cons.mpr ⟨tw_164, fun _ h => absurd h List.not_mem_nil⟩⟩⟩⟩, wl_X11_act⟩) (by decide +kernel)
set_option maxRecDepth 20000 in
theorem gL_law_X10_times : GoodIn lw_tbl (wsV RL 205 RX10 yX10_times wsX10_times) := goodIn_sub (List.forall_mem_append.mpr ⟨List.forall_mem_cons.mpr ⟨tw_1585, List.forall_mem_cons.mpr ⟨tw_1584, List.forall_mem_cons.mpr ⟨tw_1583, List.forall_mem_cons.mpr ⟨tw_157, fun _ h => absurd h List.not_mem_nil⟩⟩⟩⟩, wl_X10_times⟩) (by decide +kernel)
set_option maxRecDepth 20000 in
theorem gL_law_X11_times : GoodIn lw_tbl (wsV RL 208 RX11 yX11_times wsX11_times) := goodIn_sub (List.forall_mem_append.mpr ⟨List.forall_mem_cons.mpr ⟨tw_1589, List.forall_mem_cons.mpr ⟨tw_1588, List.forall_mem_cons.mpr ⟨tw_1587, List.forall_mem_cons.mpr ⟨tw_164, fun _ h => absurd h List.not_mem_nil⟩⟩⟩⟩, wl_X11_times⟩) (by decide +kernel)
set_option maxRecDepth 20000 in
theorem gL_law_X10_look : GoodIn lw_tbl (wsV RL 209 RX10 yX10_look wsX10_look) := goodIn_sub (List.forall_mem_append.mpr ⟨List.forall_mem_cons.mpr ⟨tw_1596, List.forall_mem_cons.mpr ⟨tw_1595, List.forall_mem_cons.mpr ⟨tw_1594, List.forall_mem_cons.mpr ⟨tw_157, fun _ h => absurd h List.not_mem_nil⟩⟩⟩⟩, wl_X10_look⟩) (by decide +kernel)
set_option maxRecDepth 20000 in
theorem gL_law_X11_look : GoodIn lw_tbl (wsV RL 213 RX11 yX11_look wsX11_look) := goodIn_sub (List.forall_mem_append.mpr ⟨List.forall_mem_cons.mpr ⟨tw_1600, List.forall_mem_cons.mpr ⟨tw_1599, List.forall_mem_cons.mpr ⟨tw_1598, List.forall_mem_cons.mpr ⟨tw_164, fun _ h => absurd h List.not_mem_nil⟩⟩⟩⟩, wl_X11_look⟩) (by decide +kernel)
set_option maxRecDepth 20000 in
theorem gL_law_X10_coins : GoodIn lw_tbl (wsV RL 214 RX10 yX10_coins wsX10_coins) := goodIn_sub (List.forall_mem_append.mpr ⟨List.forall_mem_cons.mpr ⟨tw_1604, List.forall_mem_cons.mpr ⟨tw_1603, List.forall_mem_cons.mpr ⟨tw_1602, List.forall_mem_cons.mpr ⟨tw_157, fun _ h => absurd h List.not_mem_nil⟩⟩⟩⟩, wl_X10_coins⟩) (by decide +kernel)
set_option maxRecDepth 20000 in
theorem gL_law_X11_coins : GoodIn lw_tbl (wsV RL 217 RX11 yX11_coins wsX11_coins) := goodIn_sub (List.forall_mem_append.mpr ⟨List.forall_mem_cons.mpr ⟨tw_1608, List.forall_mem_cons.mpr ⟨tw_1607, List.forall_mem_cons.mpr ⟨tw_1606, List.forall_mem_cons.mpr ⟨tw_164, fun _ h => absurd h List.not_mem_nil⟩⟩⟩⟩, wl_X11_coins⟩) (by decide +kernel)
set_option maxRecDepth 20000 in
theorem gL_law_L_led : GoodIn lw_tbl (va_wsS RL 218 yL_led wsYL_led) := goodIn_sub (List.forall_mem_append.mpr ⟨List.forall_mem_cons.mpr ⟨tw_1621, List.forall_mem_cons.mpr ⟨tw_1620, List.forall_mem_cons.mpr ⟨tw_1619, fun _ h => absurd h List.not_mem_nil⟩⟩⟩, wl_YL_led⟩) (by decide +kernel)
set_option maxRecDepth 20000 in
theorem gL_law_X11_led : GoodIn lw_tbl (wsV RL 223 RX11 yX11_led wsX11_led) := goodIn_sub (List.forall_mem_append.mpr ⟨List.forall_mem_cons.mpr ⟨tw_1641, List.forall_mem_cons.mpr ⟨tw_1640, List.forall_mem_cons.mpr ⟨tw_1639, List.forall_mem_cons.mpr ⟨tw_164, fun _ h => absurd h List.not_mem_nil⟩⟩⟩⟩, wl_X11_led⟩) (by decide +kernel)
set_option maxRecDepth 20000 in
theorem gL_law_X11_thrown : GoodIn lw_tbl (wsV RL 224 RX11 yX11_thrown wsX11_thrown) := goodIn_sub (List.forall_mem_append.mpr ⟨List.forall_mem_cons.mpr ⟨tw_1645, List.forall_mem_cons.mpr ⟨tw_1644, List.forall_mem_cons.mpr ⟨tw_1643, List.forall_mem_cons.mpr ⟨tw_164, fun _ h => absurd h List.not_mem_nil⟩⟩⟩⟩, wl_X11_thrown⟩) (by decide +kernel)
set_option maxRecDepth 20000 in
theorem gL_law_X10_size : GoodIn lw_tbl (wsV RL 227 RX10 yX10_size wsX10_size) := goodIn_sub (List.forall_mem_append.mpr ⟨List.forall_mem_cons.mpr ⟨tw_1657, List.forall_mem_cons.mpr ⟨tw_1656, List.forall_mem_cons.mpr ⟨tw_1655, List.forall_mem_cons.mpr ⟨tw_157, fun _ h => absurd h List.not_mem_nil⟩⟩⟩⟩, wl_X10_size⟩) (by decide +kernel)
set_option maxRecDepth 20000 in
theorem gL_law_X11_size : GoodIn lw_tbl (wsV RL 230 RX11 yX11_size wsX11_size) := goodIn_sub (List.forall_mem_append.mpr ⟨List.forall_mem_cons.mpr ⟨tw_1662, List.forall_mem_cons.mpr ⟨tw_1661, List.forall_mem_cons.mpr ⟨tw_1660, List.forall_mem_cons.mpr ⟨tw_164, fun _ h => absurd h List.not_mem_nil⟩⟩⟩⟩, wl_X11_size⟩) (by decide +kernel)
set_option maxRecDepth 20000 in
theorem gL_law_X10_trouble : GoodIn lw_tbl (wsV RL 231 RX10 yX10_trouble wsX10_trouble) := goodIn_sub (List.forall_mem_append.mpr ⟨List.forall_mem_cons.mpr ⟨tw_1666, List.forall_mem_cons.mpr ⟨tw_1665, List.forall_mem_cons.mpr ⟨tw_1664, List.forall_mem_cons.mpr ⟨tw_157, fun _ h => absurd h List.not_mem_nil⟩⟩⟩⟩, wl_X10_trouble⟩) (by decide +kernel)
set_option maxRecDepth 20000 in
theorem gL_law_X11_trouble : GoodIn lw_tbl (wsV RL 234 RX11 yX11_trouble wsX11_trouble) := goodIn_sub (List.forall_mem_append.mpr ⟨List.forall_mem_cons.mpr ⟨tw_1670, List.forall_mem_cons.mpr ⟨tw_1669, List.forall_mem_cons.mpr ⟨tw_1668, List.forall_mem_cons.mpr ⟨tw_164, fun _ h => absurd h List.not_mem_nil⟩⟩⟩⟩, wl_X11_trouble⟩) (by decide +kernel)
