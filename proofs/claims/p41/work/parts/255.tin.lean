set_option maxRecDepth 100000 in
theorem tinX0 : ∀ w ∈ u_ws RX0 TX0 9, w ∈ lw_tbl := by decide +kernel
set_option maxRecDepth 100000 in
theorem tgX0 : (u_ws RX0 TX0 9).all goodWord = true := by decide +kernel
set_option maxRecDepth 100000 in
theorem tinX1 : ∀ w ∈ u_ws RX1 TX1 16, w ∈ lw_tbl := by decide +kernel
set_option maxRecDepth 100000 in
theorem tgX1 : (u_ws RX1 TX1 16).all goodWord = true := by decide +kernel
set_option maxRecDepth 100000 in
theorem tinX2 : ∀ w ∈ u_ws RX2 TX2 2, w ∈ lw_tbl := by decide +kernel
set_option maxRecDepth 100000 in
theorem tgX2 : (u_ws RX2 TX2 2).all goodWord = true := by decide +kernel
set_option maxRecDepth 100000 in
theorem tinX3 : ∀ w ∈ u_ws RX3 TX3 12, w ∈ lw_tbl := by decide +kernel
set_option maxRecDepth 100000 in
theorem tgX3 : (u_ws RX3 TX3 12).all goodWord = true := by decide +kernel
set_option maxRecDepth 100000 in
theorem tinX4 : ∀ w ∈ u_ws RX4 TX4 7, w ∈ lw_tbl := by decide +kernel
set_option maxRecDepth 100000 in
theorem tgX4 : (u_ws RX4 TX4 7).all goodWord = true := by decide +kernel
set_option maxRecDepth 100000 in
theorem tinX5 : ∀ w ∈ u_ws RX5 TX5 6, w ∈ lw_tbl := by decide +kernel
set_option maxRecDepth 100000 in
theorem tgX5 : (u_ws RX5 TX5 6).all goodWord = true := by decide +kernel
set_option maxRecDepth 100000 in
theorem tinX6 : ∀ w ∈ u_ws RX6 TX6 12, w ∈ lw_tbl := by decide +kernel
set_option maxRecDepth 100000 in
theorem tgX6 : (u_ws RX6 TX6 12).all goodWord = true := by decide +kernel
set_option maxRecDepth 100000 in
theorem tinX7 : ∀ w ∈ u_ws RX7 TX7 1, w ∈ lw_tbl := by decide +kernel
set_option maxRecDepth 100000 in
theorem tgX7 : (u_ws RX7 TX7 1).all goodWord = true := by decide +kernel
set_option maxRecDepth 100000 in
theorem tinX8 : ∀ w ∈ u_ws RX8 TX8 8, w ∈ lw_tbl := by decide +kernel
set_option maxRecDepth 100000 in
theorem tgX8 : (u_ws RX8 TX8 8).all goodWord = true := by decide +kernel
set_option maxRecDepth 100000 in
theorem tinX9 : ∀ w ∈ u_ws RX9 TX9 10, w ∈ lw_tbl := by decide +kernel
set_option maxRecDepth 100000 in
theorem tgX9 : (u_ws RX9 TX9 10).all goodWord = true := by decide +kernel
set_option maxRecDepth 100000 in
theorem tinX10 : ∀ w ∈ u_ws RX10 TX10 14, w ∈ lw_tbl := by decide +kernel
set_option maxRecDepth 100000 in
theorem tgX10 : (u_ws RX10 TX10 14).all goodWord = true := by decide +kernel
set_option maxRecDepth 100000 in
theorem tinX11 : ∀ w ∈ u_ws RX11 TX11 40, w ∈ lw_tbl := by decide +kernel
set_option maxRecDepth 100000 in
theorem tgX11 : (u_ws RX11 TX11 40).all goodWord = true := by decide +kernel
