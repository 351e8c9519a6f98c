set_option maxRecDepth 100000 in
theorem st_RX6_77 : Cond.stringRef RX6 77 "law" ∈ lw_tbl := tk_3 (j := 32) rfl
set_option maxRecDepth 100000 in
theorem st_RX6_85 : Cond.stringRef RX6 85 "look" ∈ lw_tbl := tk_3 (j := 102) rfl
set_option maxRecDepth 100000 in
theorem st_RX6_91 : Cond.stringRef RX6 91 "point" ∈ lw_tbl := tk_3 (j := 115) rfl
set_option maxRecDepth 100000 in
theorem st_RX6_93 : Cond.stringRef RX6 93 "set" ∈ lw_tbl := tk_3 (j := 116) rfl
set_option maxRecDepth 100000 in
theorem st_RX6_98 : Cond.stringRef RX6 98 "line" ∈ lw_tbl := tk_3 (j := 117) rfl
set_option maxRecDepth 100000 in
theorem st_RX6_103 : Cond.stringRef RX6 103 "ray" ∈ lw_tbl := tk_3 (j := 118) rfl
set_option maxRecDepth 100000 in
theorem st_RX6_108 : Cond.stringRef RX6 108 "run" ∈ lw_tbl := tk_3 (j := 119) rfl
set_option maxRecDepth 100000 in
theorem st_RX6_113 : Cond.stringRef RX6 113 "of" ∈ lw_tbl := tk_3 (j := 93) rfl
set_option maxRecDepth 100000 in
theorem st_RX6_148 : Cond.stringRef RX6 148 "tells" ∈ lw_tbl := tk_3 (j := 132) rfl
set_option maxRecDepth 100000 in
theorem st_RX6_159 : Cond.stringRef RX6 159 "is" ∈ lw_tbl := tk_3 (j := 145) rfl
set_option maxRecDepth 100000 in
theorem st_RX6_161 : Cond.stringRef RX6 161 "even" ∈ lw_tbl := tk_3 (j := 146) rfl
set_option maxRecDepth 100000 in
theorem st_RX6_163 : Cond.stringRef RX6 163 "odd" ∈ lw_tbl := tk_3 (j := 147) rfl
set_option maxRecDepth 100000 in
theorem st_RX11_138 : Cond.stringRef RX11 138 "law" ∈ lw_tbl := tk_7 (j := 9) rfl
set_option maxRecDepth 100000 in
theorem st_RX11_140 : Cond.stringRef RX11 140 "look" ∈ lw_tbl := tk_7 (j := 41) rfl
set_option maxRecDepth 100000 in
theorem st_RX11_142 : Cond.stringRef RX11 142 "point" ∈ lw_tbl := tk_7 (j := 50) rfl
set_option maxRecDepth 100000 in
theorem st_RX11_144 : Cond.stringRef RX11 144 "set" ∈ lw_tbl := tk_7 (j := 51) rfl
set_option maxRecDepth 100000 in
theorem st_RX11_146 : Cond.stringRef RX11 146 "line" ∈ lw_tbl := tk_7 (j := 52) rfl
set_option maxRecDepth 100000 in
theorem st_RX11_148 : Cond.stringRef RX11 148 "ray" ∈ lw_tbl := tk_7 (j := 53) rfl
set_option maxRecDepth 100000 in
theorem st_RX11_150 : Cond.stringRef RX11 150 "run" ∈ lw_tbl := tk_7 (j := 54) rfl
set_option maxRecDepth 100000 in
theorem st_RX11_221 : Cond.stringRef RX11 221 "of" ∈ lw_tbl := tk_7 (j := 28) rfl
set_option maxRecDepth 100000 in
theorem st_RX11_234 : Cond.stringRef RX11 234 "tells" ∈ lw_tbl := tk_7 (j := 78) rfl
set_option maxRecDepth 100000 in
theorem st_RX11_238 : Cond.stringRef RX11 238 "is" ∈ lw_tbl := tk_7 (j := 87) rfl
set_option maxRecDepth 100000 in
theorem st_RX11_240 : Cond.stringRef RX11 240 "odd" ∈ lw_tbl := tk_7 (j := 88) rfl
set_option maxRecDepth 100000 in
theorem st_RX11_242 : Cond.stringRef RX11 242 "even" ∈ lw_tbl := tk_7 (j := 89) rfl
set_option maxRecDepth 100000 in
theorem se_138 : Cond.eq (.string RX6 77) (.string RX11 138) ∈ flatC (Jvm.Cond.and given_1 narrow_1) := by decide +kernel
set_option maxRecDepth 100000 in
theorem se_140 : Cond.eq (.string RX6 85) (.string RX11 140) ∈ flatC (Jvm.Cond.and given_1 narrow_1) := by decide +kernel
set_option maxRecDepth 100000 in
theorem se_142 : Cond.eq (.string RX6 91) (.string RX11 142) ∈ flatC (Jvm.Cond.and given_1 narrow_1) := by decide +kernel
set_option maxRecDepth 100000 in
theorem se_144 : Cond.eq (.string RX6 93) (.string RX11 144) ∈ flatC (Jvm.Cond.and given_1 narrow_1) := by decide +kernel
set_option maxRecDepth 100000 in
theorem se_146 : Cond.eq (.string RX6 98) (.string RX11 146) ∈ flatC (Jvm.Cond.and given_1 narrow_1) := by decide +kernel
set_option maxRecDepth 100000 in
theorem se_148 : Cond.eq (.string RX6 103) (.string RX11 148) ∈ flatC (Jvm.Cond.and given_1 narrow_1) := by decide +kernel
set_option maxRecDepth 100000 in
theorem se_150 : Cond.eq (.string RX6 108) (.string RX11 150) ∈ flatC (Jvm.Cond.and given_1 narrow_1) := by decide +kernel
set_option maxRecDepth 100000 in
theorem se_221 : Cond.eq (.string RX6 113) (.string RX11 221) ∈ flatC (Jvm.Cond.and given_1 narrow_1) := by decide +kernel
set_option maxRecDepth 100000 in
theorem se_234 : Cond.eq (.string RX6 148) (.string RX11 234) ∈ flatC (Jvm.Cond.and given_1 narrow_1) := by decide +kernel
set_option maxRecDepth 100000 in
theorem se_238 : Cond.eq (.string RX6 159) (.string RX11 238) ∈ flatC (Jvm.Cond.and given_1 narrow_1) := by decide +kernel
set_option maxRecDepth 100000 in
theorem se_240 : Cond.eq (.string RX6 163) (.string RX11 240) ∈ flatC (Jvm.Cond.and given_1 narrow_1) := by decide +kernel
set_option maxRecDepth 100000 in
theorem se_242 : Cond.eq (.string RX6 161) (.string RX11 242) ∈ flatC (Jvm.Cond.and given_1 narrow_1) := by decide +kernel
set_option maxRecDepth 100000 in
theorem st_RX10_339 : Cond.stringRef RX10 339 "no such outcome" ∈ lw_tbl := tk_6 (j := 58) rfl
set_option maxRecDepth 100000 in
theorem sx_RX10_339 : Cond.exactly (.string RX10 339) "java/lang/String" ∈ flatC (Jvm.Cond.and given_1 narrow_1) := by decide +kernel
def sm_t (i : Nat) : Term := .string RX6 ([77, 85, 91, 93, 98, 103, 108, 113, 148, 159, 161, 163].getD i 0)
set_option maxRecDepth 100000 in
theorem sm_ex : ∀ i : Nat, i < 12 → Cond.exactly (sm_t i) "java/lang/String" ∈ flatC (Jvm.Cond.and given_1 narrow_1) := by decide +kernel
set_option maxRecDepth 100000 in
theorem sm_co : ∀ i : Nat, i < 12 → Cond.eq (.field (sm_t i) "java/lang/String" "coder" "B") (.int 0) ∈ flatC (Jvm.Cond.and given_1 narrow_1) := by decide +kernel
set_option maxRecDepth 100000 in
theorem sm_ar : ∀ i : Nat, i < 12 → Cond.arrayOf (.field (sm_t i) "java/lang/String" "value" "[B") .byte ∈ flatC (Jvm.Cond.and given_1 narrow_1) := by decide +kernel
set_option maxRecDepth 100000 in
theorem sm_le : ∀ i : Nat, i < 12 → Cond.eq (.length (.field (sm_t i) "java/lang/String" "value" "[B")) (.int (Int32.ofNat (lenJS.getD i 0))) ∈ flatC (Jvm.Cond.and given_1 narrow_1) := by decide +kernel
set_option maxRecDepth 100000 in
theorem sm_el : ∀ i : Nat, i < 12 → ∀ j : Nat, j < lenJS.getD i 0 → Cond.eq (.elem (.field (sm_t i) "java/lang/String" "value" "[B") (.int (Int32.ofNat j))) (.int ((bytJS.getD i []).getD j 0)) ∈ flatC (Jvm.Cond.and given_1 narrow_1) := by decide +kernel
set_option maxRecDepth 100000 in
theorem sn_0_1 : Cond.not (Cond.eq (.string RX6 77) (.string RX6 85)) ∈ flatC (Jvm.Cond.and given_1 narrow_1) := (List.mem_append_right _ (List.mem_append_left _ (List.mem_append_left _ (List.mem_append_left _ (List.mem_append_right _ (List.mem_append_left _ (List.mem_append_right _ (List.mem_append_left _ (List.mem_append_right _ (List.mem_append_right _ List.mem_cons_self))))))))))
set_option maxRecDepth 100000 in
theorem sn_0_2 : Cond.not (Cond.eq (.string RX6 77) (.string RX6 91)) ∈ flatC (Jvm.Cond.and given_1 narrow_1) := (List.mem_append_right _ (List.mem_append_left _ (List.mem_append_left _ (List.mem_append_left _ (List.mem_append_right _ (List.mem_append_right _ (List.mem_append_left _ (List.mem_append_right _ (List.mem_append_right _ (List.mem_append_left _ List.mem_cons_self))))))))))
set_option maxRecDepth 100000 in
theorem sn_0_3 : Cond.not (Cond.eq (.string RX6 77) (.string RX6 93)) ∈ flatC (Jvm.Cond.and given_1 narrow_1) := (List.mem_append_right _ (List.mem_append_left _ (List.mem_append_left _ (List.mem_append_right _ (List.mem_append_left _ (List.mem_append_left _ (List.mem_append_left _ (List.mem_append_left _ (List.mem_append_left _ (List.mem_append_left _ List.mem_cons_self))))))))))
set_option maxRecDepth 100000 in
theorem sn_0_4 : Cond.not (Cond.eq (.string RX6 77) (.string RX6 98)) ∈ flatC (Jvm.Cond.and given_1 narrow_1) := (List.mem_append_right _ (List.mem_append_left _ (List.mem_append_left _ (List.mem_append_right _ (List.mem_append_left _ (List.mem_append_left _ (List.mem_append_right _ (List.mem_append_right _ (List.mem_append_left _ (List.mem_append_left _ List.mem_cons_self))))))))))
set_option maxRecDepth 100000 in
theorem sn_0_5 : Cond.not (Cond.eq (.string RX6 77) (.string RX6 103)) ∈ flatC (Jvm.Cond.and given_1 narrow_1) := (List.mem_append_right _ (List.mem_append_left _ (List.mem_append_left _ (List.mem_append_right _ (List.mem_append_left _ (List.mem_append_right _ (List.mem_append_right _ (List.mem_append_left _ (List.mem_append_left _ (List.mem_append_left _ List.mem_cons_self))))))))))
set_option maxRecDepth 100000 in
theorem sn_0_6 : Cond.not (Cond.eq (.string RX6 77) (.string RX6 108)) ∈ flatC (Jvm.Cond.and given_1 narrow_1) := (List.mem_append_right _ (List.mem_append_left _ (List.mem_append_left _ (List.mem_append_right _ (List.mem_append_right _ (List.mem_append_left _ (List.mem_append_left _ (List.mem_append_right _ (List.mem_append_left _ (List.mem_append_right _ List.mem_cons_self))))))))))
set_option maxRecDepth 100000 in
theorem sn_0_7 : Cond.not (Cond.eq (.string RX6 77) (.string RX6 113)) ∈ flatC (Jvm.Cond.and given_1 narrow_1) := (List.mem_append_right _ (List.mem_append_left _ (List.mem_append_left _ (List.mem_append_left _ (List.mem_append_right _ (List.mem_append_left _ (List.mem_append_left _ (List.mem_append_left _ (List.mem_append_right _ (List.mem_append_left _ List.mem_cons_self))))))))))
set_option maxRecDepth 100000 in
theorem sn_0_8 : Cond.not (Cond.eq (.string RX6 77) (.string RX6 148)) ∈ flatC (Jvm.Cond.and given_1 narrow_1) := (List.mem_append_right _ (List.mem_append_left _ (List.mem_append_left _ (List.mem_append_right _ (List.mem_append_right _ (List.mem_append_right _ (List.mem_append_left _ (List.mem_append_right _ (List.mem_append_left _ (List.mem_append_right _ List.mem_cons_self))))))))))
set_option maxRecDepth 100000 in
theorem sn_0_9 : Cond.not (Cond.eq (.string RX6 77) (.string RX6 159)) ∈ flatC (Jvm.Cond.and given_1 narrow_1) := (List.mem_append_right _ (List.mem_append_left _ (List.mem_append_right _ (List.mem_append_left _ (List.mem_append_left _ (List.mem_append_left _ (List.mem_append_left _ (List.mem_append_left _ (List.mem_append_right _ (List.mem_append_left _ List.mem_cons_self))))))))))
set_option maxRecDepth 100000 in
theorem sn_0_10 : Cond.not (Cond.eq (.string RX6 77) (.string RX6 161)) ∈ flatC (Jvm.Cond.and given_1 narrow_1) := (List.mem_append_right _ (List.mem_append_left _ (List.mem_append_right _ (List.mem_append_left _ (List.mem_append_left _ (List.mem_append_right _ (List.mem_append_left _ (List.mem_append_left _ (List.mem_append_right _ (List.mem_append_right _ List.mem_cons_self))))))))))
set_option maxRecDepth 100000 in
theorem sn_0_11 : Cond.not (Cond.eq (.string RX6 77) (.string RX6 163)) ∈ flatC (Jvm.Cond.and given_1 narrow_1) := (List.mem_append_right _ (List.mem_append_left _ (List.mem_append_right _ (List.mem_append_left _ (List.mem_append_right _ (List.mem_append_left _ (List.mem_append_left _ (List.mem_append_right _ (List.mem_append_left _ (List.mem_append_left _ List.mem_cons_self))))))))))
set_option maxRecDepth 100000 in
theorem sn_1_2 : Cond.not (Cond.eq (.string RX6 85) (.string RX6 91)) ∈ flatC (Jvm.Cond.and given_1 narrow_1) := (List.mem_append_right _ (List.mem_append_left _ (List.mem_append_left _ (List.mem_append_left _ (List.mem_append_right _ (List.mem_append_right _ (List.mem_append_right _ (List.mem_append_left _ (List.mem_append_left _ (List.mem_append_left _ List.mem_cons_self))))))))))
set_option maxRecDepth 100000 in
theorem sn_1_3 : Cond.not (Cond.eq (.string RX6 85) (.string RX6 93)) ∈ flatC (Jvm.Cond.and given_1 narrow_1) := (List.mem_append_right _ (List.mem_append_left _ (List.mem_append_left _ (List.mem_append_right _ (List.mem_append_left _ (List.mem_append_left _ (List.mem_append_left _ (List.mem_append_left _ (List.mem_append_right _ (List.mem_append_left _ List.mem_cons_self))))))))))
set_option maxRecDepth 100000 in
theorem sn_1_4 : Cond.not (Cond.eq (.string RX6 85) (.string RX6 98)) ∈ flatC (Jvm.Cond.and given_1 narrow_1) := (List.mem_append_right _ (List.mem_append_left _ (List.mem_append_left _ (List.mem_append_right _ (List.mem_append_left _ (List.mem_append_left _ (List.mem_append_right _ (List.mem_append_right _ (List.mem_append_right _ (List.mem_append_left _ List.mem_cons_self))))))))))
set_option maxRecDepth 100000 in
theorem sn_1_5 : Cond.not (Cond.eq (.string RX6 85) (.string RX6 103)) ∈ flatC (Jvm.Cond.and given_1 narrow_1) := (List.mem_append_right _ (List.mem_append_left _ (List.mem_append_left _ (List.mem_append_right _ (List.mem_append_left _ (List.mem_append_right _ (List.mem_append_right _ (List.mem_append_left _ (List.mem_append_right _ (List.mem_append_left _ List.mem_cons_self))))))))))
set_option maxRecDepth 100000 in
theorem sn_1_6 : Cond.not (Cond.eq (.string RX6 85) (.string RX6 108)) ∈ flatC (Jvm.Cond.and given_1 narrow_1) := (List.mem_append_right _ (List.mem_append_left _ (List.mem_append_left _ (List.mem_append_right _ (List.mem_append_right _ (List.mem_append_left _ (List.mem_append_left _ (List.mem_append_right _ (List.mem_append_right _ (List.mem_append_right _ List.mem_cons_self))))))))))
set_option maxRecDepth 100000 in
theorem sn_1_8 : Cond.not (Cond.eq (.string RX6 85) (.string RX6 148)) ∈ flatC (Jvm.Cond.and given_1 narrow_1) := (List.mem_append_right _ (List.mem_append_left _ (List.mem_append_left _ (List.mem_append_right _ (List.mem_append_right _ (List.mem_append_right _ (List.mem_append_left _ (List.mem_append_right _ (List.mem_append_right _ (List.mem_append_right _ List.mem_cons_self))))))))))
set_option maxRecDepth 100000 in
theorem sn_1_9 : Cond.not (Cond.eq (.string RX6 85) (.string RX6 159)) ∈ flatC (Jvm.Cond.and given_1 narrow_1) := (List.mem_append_right _ (List.mem_append_left _ (List.mem_append_right _ (List.mem_append_left _ (List.mem_append_left _ (List.mem_append_left _ (List.mem_append_left _ (List.mem_append_right _ (List.mem_append_left _ (List.mem_append_left _ List.mem_cons_self))))))))))
set_option maxRecDepth 100000 in
theorem sn_1_10 : Cond.not (Cond.eq (.string RX6 85) (.string RX6 161)) ∈ flatC (Jvm.Cond.and given_1 narrow_1) := (List.mem_append_right _ (List.mem_append_left _ (List.mem_append_right _ (List.mem_append_left _ (List.mem_append_left _ (List.mem_append_right _ (List.mem_append_left _ (List.mem_append_right _ (List.mem_append_left _ (List.mem_append_right _ List.mem_cons_self))))))))))
set_option maxRecDepth 100000 in
theorem sn_1_11 : Cond.not (Cond.eq (.string RX6 85) (.string RX6 163)) ∈ flatC (Jvm.Cond.and given_1 narrow_1) := (List.mem_append_right _ (List.mem_append_left _ (List.mem_append_right _ (List.mem_append_left _ (List.mem_append_right _ (List.mem_append_left _ (List.mem_append_left _ (List.mem_append_right _ (List.mem_append_right _ (List.mem_append_left _ List.mem_cons_self))))))))))
set_option maxRecDepth 100000 in
theorem sn_2_3 : Cond.not (Cond.eq (.string RX6 91) (.string RX6 93)) ∈ flatC (Jvm.Cond.and given_1 narrow_1) := (List.mem_append_right _ (List.mem_append_left _ (List.mem_append_left _ (List.mem_append_right _ (List.mem_append_left _ (List.mem_append_left _ (List.mem_append_left _ (List.mem_append_left _ (List.mem_append_right _ (List.mem_append_right _ List.mem_cons_self))))))))))
set_option maxRecDepth 100000 in
theorem sn_2_4 : Cond.not (Cond.eq (.string RX6 91) (.string RX6 98)) ∈ flatC (Jvm.Cond.and given_1 narrow_1) := (List.mem_append_right _ (List.mem_append_left _ (List.mem_append_left _ (List.mem_append_right _ (List.mem_append_left _ (List.mem_append_left _ (List.mem_append_right _ (List.mem_append_right _ (List.mem_append_right _ (List.mem_append_right _ List.mem_cons_self))))))))))
set_option maxRecDepth 100000 in
theorem sn_2_5 : Cond.not (Cond.eq (.string RX6 91) (.string RX6 103)) ∈ flatC (Jvm.Cond.and given_1 narrow_1) := (List.mem_append_right _ (List.mem_append_left _ (List.mem_append_left _ (List.mem_append_right _ (List.mem_append_left _ (List.mem_append_right _ (List.mem_append_right _ (List.mem_append_left _ (List.mem_append_right _ (List.mem_append_right _ List.mem_cons_self))))))))))
set_option maxRecDepth 100000 in
theorem sn_2_6 : Cond.not (Cond.eq (.string RX6 91) (.string RX6 108)) ∈ flatC (Jvm.Cond.and given_1 narrow_1) := (List.mem_append_right _ (List.mem_append_left _ (List.mem_append_left _ (List.mem_append_right _ (List.mem_append_right _ (List.mem_append_left _ (List.mem_append_right _ (List.mem_append_left _ (List.mem_append_left _ (List.mem_append_left _ List.mem_cons_self))))))))))
set_option maxRecDepth 100000 in
theorem sn_2_8 : Cond.not (Cond.eq (.string RX6 91) (.string RX6 148)) ∈ flatC (Jvm.Cond.and given_1 narrow_1) := (List.mem_append_right _ (List.mem_append_left _ (List.mem_append_left _ (List.mem_append_right _ (List.mem_append_right _ (List.mem_append_right _ (List.mem_append_right _ (List.mem_append_left _ (List.mem_append_left _ (List.mem_append_left _ List.mem_cons_self))))))))))
set_option maxRecDepth 100000 in
theorem sn_2_9 : Cond.not (Cond.eq (.string RX6 91) (.string RX6 159)) ∈ flatC (Jvm.Cond.and given_1 narrow_1) := (List.mem_append_right _ (List.mem_append_left _ (List.mem_append_right _ (List.mem_append_left _ (List.mem_append_left _ (List.mem_append_left _ (List.mem_append_left _ (List.mem_append_right _ (List.mem_append_left _ (List.mem_append_right _ List.mem_cons_self))))))))))
set_option maxRecDepth 100000 in
theorem sn_2_10 : Cond.not (Cond.eq (.string RX6 91) (.string RX6 161)) ∈ flatC (Jvm.Cond.and given_1 narrow_1) := (List.mem_append_right _ (List.mem_append_left _ (List.mem_append_right _ (List.mem_append_left _ (List.mem_append_left _ (List.mem_append_right _ (List.mem_append_left _ (List.mem_append_right _ (List.mem_append_right _ (List.mem_append_left _ List.mem_cons_self))))))))))
set_option maxRecDepth 100000 in
theorem sn_2_11 : Cond.not (Cond.eq (.string RX6 91) (.string RX6 163)) ∈ flatC (Jvm.Cond.and given_1 narrow_1) := (List.mem_append_right _ (List.mem_append_left _ (List.mem_append_right _ (List.mem_append_left _ (List.mem_append_right _ (List.mem_append_left _ (List.mem_append_left _ (List.mem_append_right _ (List.mem_append_right _ (List.mem_append_right _ List.mem_cons_self))))))))))
set_option maxRecDepth 100000 in
theorem sn_3_4 : Cond.not (Cond.eq (.string RX6 93) (.string RX6 98)) ∈ flatC (Jvm.Cond.and given_1 narrow_1) := (List.mem_append_right _ (List.mem_append_left _ (List.mem_append_left _ (List.mem_append_right _ (List.mem_append_left _ (List.mem_append_right _ (List.mem_append_left _ (List.mem_append_left _ (List.mem_append_left _ (List.mem_append_left _ List.mem_cons_self))))))))))
set_option maxRecDepth 100000 in
theorem sn_3_5 : Cond.not (Cond.eq (.string RX6 93) (.string RX6 103)) ∈ flatC (Jvm.Cond.and given_1 narrow_1) := (List.mem_append_right _ (List.mem_append_left _ (List.mem_append_left _ (List.mem_append_right _ (List.mem_append_left _ (List.mem_append_right _ (List.mem_append_right _ (List.mem_append_right _ (List.mem_append_left _ (List.mem_append_left _ List.mem_cons_self))))))))))
set_option maxRecDepth 100000 in
theorem sn_3_6 : Cond.not (Cond.eq (.string RX6 93) (.string RX6 108)) ∈ flatC (Jvm.Cond.and given_1 narrow_1) := (List.mem_append_right _ (List.mem_append_left _ (List.mem_append_left _ (List.mem_append_right _ (List.mem_append_right _ (List.mem_append_left _ (List.mem_append_right _ (List.mem_append_left _ (List.mem_append_left _ (List.mem_append_right _ List.mem_cons_self))))))))))
set_option maxRecDepth 100000 in
theorem sn_3_8 : Cond.not (Cond.eq (.string RX6 93) (.string RX6 148)) ∈ flatC (Jvm.Cond.and given_1 narrow_1) := (List.mem_append_right _ (List.mem_append_left _ (List.mem_append_left _ (List.mem_append_right _ (List.mem_append_right _ (List.mem_append_right _ (List.mem_append_right _ (List.mem_append_left _ (List.mem_append_left _ (List.mem_append_right _ List.mem_cons_self))))))))))
set_option maxRecDepth 100000 in
theorem sn_3_9 : Cond.not (Cond.eq (.string RX6 93) (.string RX6 159)) ∈ flatC (Jvm.Cond.and given_1 narrow_1) := (List.mem_append_right _ (List.mem_append_left _ (List.mem_append_right _ (List.mem_append_left _ (List.mem_append_left _ (List.mem_append_left _ (List.mem_append_left _ (List.mem_append_right _ (List.mem_append_right _ (List.mem_append_left _ List.mem_cons_self))))))))))
set_option maxRecDepth 100000 in
theorem sn_3_10 : Cond.not (Cond.eq (.string RX6 93) (.string RX6 161)) ∈ flatC (Jvm.Cond.and given_1 narrow_1) := (List.mem_append_right _ (List.mem_append_left _ (List.mem_append_right _ (List.mem_append_left _ (List.mem_append_left _ (List.mem_append_right _ (List.mem_append_left _ (List.mem_append_right _ (List.mem_append_right _ (List.mem_append_right _ List.mem_cons_self))))))))))
set_option maxRecDepth 100000 in
theorem sn_3_11 : Cond.not (Cond.eq (.string RX6 93) (.string RX6 163)) ∈ flatC (Jvm.Cond.and given_1 narrow_1) := (List.mem_append_right _ (List.mem_append_left _ (List.mem_append_right _ (List.mem_append_left _ (List.mem_append_right _ (List.mem_append_left _ (List.mem_append_right _ (List.mem_append_left _ (List.mem_append_left _ (List.mem_append_left _ List.mem_cons_self))))))))))
set_option maxRecDepth 100000 in
theorem sn_4_5 : Cond.not (Cond.eq (.string RX6 98) (.string RX6 103)) ∈ flatC (Jvm.Cond.and given_1 narrow_1) := (List.mem_append_right _ (List.mem_append_left _ (List.mem_append_left _ (List.mem_append_right _ (List.mem_append_left _ (List.mem_append_right _ (List.mem_append_right _ (List.mem_append_right _ (List.mem_append_left _ (List.mem_append_right _ List.mem_cons_self))))))))))
set_option maxRecDepth 100000 in
theorem sn_4_6 : Cond.not (Cond.eq (.string RX6 98) (.string RX6 108)) ∈ flatC (Jvm.Cond.and given_1 narrow_1) := (List.mem_append_right _ (List.mem_append_left _ (List.mem_append_left _ (List.mem_append_right _ (List.mem_append_right _ (List.mem_append_left _ (List.mem_append_right _ (List.mem_append_left _ (List.mem_append_right _ (List.mem_append_left _ List.mem_cons_self))))))))))
set_option maxRecDepth 100000 in
theorem sn_4_8 : Cond.not (Cond.eq (.string RX6 98) (.string RX6 148)) ∈ flatC (Jvm.Cond.and given_1 narrow_1) := (List.mem_append_right _ (List.mem_append_left _ (List.mem_append_left _ (List.mem_append_right _ (List.mem_append_right _ (List.mem_append_right _ (List.mem_append_right _ (List.mem_append_left _ (List.mem_append_right _ (List.mem_append_left _ List.mem_cons_self))))))))))
set_option maxRecDepth 100000 in
theorem sn_4_9 : Cond.not (Cond.eq (.string RX6 98) (.string RX6 159)) ∈ flatC (Jvm.Cond.and given_1 narrow_1) := (List.mem_append_right _ (List.mem_append_left _ (List.mem_append_right _ (List.mem_append_left _ (List.mem_append_left _ (List.mem_append_left _ (List.mem_append_left _ (List.mem_append_right _ (List.mem_append_right _ (List.mem_append_right _ List.mem_cons_self))))))))))
set_option maxRecDepth 100000 in
theorem sn_4_10 : Cond.not (Cond.eq (.string RX6 98) (.string RX6 161)) ∈ flatC (Jvm.Cond.and given_1 narrow_1) := (List.mem_append_right _ (List.mem_append_left _ (List.mem_append_right _ (List.mem_append_left _ (List.mem_append_left _ (List.mem_append_right _ (List.mem_append_right _ (List.mem_append_left _ (List.mem_append_left _ (List.mem_append_left _ List.mem_cons_self))))))))))
set_option maxRecDepth 100000 in
theorem sn_4_11 : Cond.not (Cond.eq (.string RX6 98) (.string RX6 163)) ∈ flatC (Jvm.Cond.and given_1 narrow_1) := (List.mem_append_right _ (List.mem_append_left _ (List.mem_append_right _ (List.mem_append_left _ (List.mem_append_right _ (List.mem_append_left _ (List.mem_append_right _ (List.mem_append_left _ (List.mem_append_left _ (List.mem_append_right _ List.mem_cons_self))))))))))
set_option maxRecDepth 100000 in
theorem sn_5_6 : Cond.not (Cond.eq (.string RX6 103) (.string RX6 108)) ∈ flatC (Jvm.Cond.and given_1 narrow_1) := (List.mem_append_right _ (List.mem_append_left _ (List.mem_append_left _ (List.mem_append_right _ (List.mem_append_right _ (List.mem_append_left _ (List.mem_append_right _ (List.mem_append_left _ (List.mem_append_right _ (List.mem_append_right _ List.mem_cons_self))))))))))
set_option maxRecDepth 100000 in
theorem sn_5_8 : Cond.not (Cond.eq (.string RX6 103) (.string RX6 148)) ∈ flatC (Jvm.Cond.and given_1 narrow_1) := (List.mem_append_right _ (List.mem_append_left _ (List.mem_append_left _ (List.mem_append_right _ (List.mem_append_right _ (List.mem_append_right _ (List.mem_append_right _ (List.mem_append_left _ (List.mem_append_right _ (List.mem_append_right _ List.mem_cons_self))))))))))
set_option maxRecDepth 100000 in
theorem sn_5_9 : Cond.not (Cond.eq (.string RX6 103) (.string RX6 159)) ∈ flatC (Jvm.Cond.and given_1 narrow_1) := (List.mem_append_right _ (List.mem_append_left _ (List.mem_append_right _ (List.mem_append_left _ (List.mem_append_left _ (List.mem_append_left _ (List.mem_append_right _ (List.mem_append_left _ (List.mem_append_left _ (List.mem_append_left _ List.mem_cons_self))))))))))
set_option maxRecDepth 100000 in
theorem sn_5_10 : Cond.not (Cond.eq (.string RX6 103) (.string RX6 161)) ∈ flatC (Jvm.Cond.and given_1 narrow_1) := (List.mem_append_right _ (List.mem_append_left _ (List.mem_append_right _ (List.mem_append_left _ (List.mem_append_left _ (List.mem_append_right _ (List.mem_append_right _ (List.mem_append_left _ (List.mem_append_left _ (List.mem_append_right _ List.mem_cons_self))))))))))
set_option maxRecDepth 100000 in
theorem sn_5_11 : Cond.not (Cond.eq (.string RX6 103) (.string RX6 163)) ∈ flatC (Jvm.Cond.and given_1 narrow_1) := (List.mem_append_right _ (List.mem_append_left _ (List.mem_append_right _ (List.mem_append_left _ (List.mem_append_right _ (List.mem_append_left _ (List.mem_append_right _ (List.mem_append_left _ (List.mem_append_right _ (List.mem_append_left _ List.mem_cons_self))))))))))
set_option maxRecDepth 100000 in
theorem sn_6_8 : Cond.not (Cond.eq (.string RX6 108) (.string RX6 148)) ∈ flatC (Jvm.Cond.and given_1 narrow_1) := (List.mem_append_right _ (List.mem_append_left _ (List.mem_append_left _ (List.mem_append_right _ (List.mem_append_right _ (List.mem_append_right _ (List.mem_append_right _ (List.mem_append_right _ (List.mem_append_left _ (List.mem_append_left _ List.mem_cons_self))))))))))
set_option maxRecDepth 100000 in
theorem sn_6_9 : Cond.not (Cond.eq (.string RX6 108) (.string RX6 159)) ∈ flatC (Jvm.Cond.and given_1 narrow_1) := (List.mem_append_right _ (List.mem_append_left _ (List.mem_append_right _ (List.mem_append_left _ (List.mem_append_left _ (List.mem_append_left _ (List.mem_append_right _ (List.mem_append_left _ (List.mem_append_left _ (List.mem_append_right _ List.mem_cons_self))))))))))
set_option maxRecDepth 100000 in
theorem sn_6_10 : Cond.not (Cond.eq (.string RX6 108) (.string RX6 161)) ∈ flatC (Jvm.Cond.and given_1 narrow_1) := (List.mem_append_right _ (List.mem_append_left _ (List.mem_append_right _ (List.mem_append_left _ (List.mem_append_left _ (List.mem_append_right _ (List.mem_append_right _ (List.mem_append_left _ (List.mem_append_right _ (List.mem_append_left _ List.mem_cons_self))))))))))
set_option maxRecDepth 100000 in
theorem sn_6_11 : Cond.not (Cond.eq (.string RX6 108) (.string RX6 163)) ∈ flatC (Jvm.Cond.and given_1 narrow_1) := (List.mem_append_right _ (List.mem_append_left _ (List.mem_append_right _ (List.mem_append_left _ (List.mem_append_right _ (List.mem_append_left _ (List.mem_append_right _ (List.mem_append_left _ (List.mem_append_right _ (List.mem_append_right _ List.mem_cons_self))))))))))
set_option maxRecDepth 100000 in
theorem sn_7_1 : Cond.not (Cond.eq (.string RX6 113) (.string RX6 85)) ∈ flatC (Jvm.Cond.and given_1 narrow_1) := (List.mem_append_right _ (List.mem_append_left _ (List.mem_append_left _ (List.mem_append_left _ (List.mem_append_right _ (List.mem_append_left _ (List.mem_append_right _ (List.mem_append_right _ (List.mem_append_left _ (List.mem_append_left _ List.mem_cons_self))))))))))
set_option maxRecDepth 100000 in
theorem sn_7_2 : Cond.not (Cond.eq (.string RX6 113) (.string RX6 91)) ∈ flatC (Jvm.Cond.and given_1 narrow_1) := (List.mem_append_right _ (List.mem_append_left _ (List.mem_append_left _ (List.mem_append_left _ (List.mem_append_right _ (List.mem_append_right _ (List.mem_append_left _ (List.mem_append_right _ (List.mem_append_right _ (List.mem_append_right _ List.mem_cons_self))))))))))
set_option maxRecDepth 100000 in
theorem sn_7_3 : Cond.not (Cond.eq (.string RX6 113) (.string RX6 93)) ∈ flatC (Jvm.Cond.and given_1 narrow_1) := (List.mem_append_right _ (List.mem_append_left _ (List.mem_append_left _ (List.mem_append_right _ (List.mem_append_left _ (List.mem_append_left _ (List.mem_append_left _ (List.mem_append_left _ (List.mem_append_left _ (List.mem_append_right _ List.mem_cons_self))))))))))
set_option maxRecDepth 100000 in
theorem sn_7_4 : Cond.not (Cond.eq (.string RX6 113) (.string RX6 98)) ∈ flatC (Jvm.Cond.and given_1 narrow_1) := (List.mem_append_right _ (List.mem_append_left _ (List.mem_append_left _ (List.mem_append_right _ (List.mem_append_left _ (List.mem_append_left _ (List.mem_append_right _ (List.mem_append_right _ (List.mem_append_left _ (List.mem_append_right _ List.mem_cons_self))))))))))
set_option maxRecDepth 100000 in
theorem sn_7_5 : Cond.not (Cond.eq (.string RX6 113) (.string RX6 103)) ∈ flatC (Jvm.Cond.and given_1 narrow_1) := (List.mem_append_right _ (List.mem_append_left _ (List.mem_append_left _ (List.mem_append_right _ (List.mem_append_left _ (List.mem_append_right _ (List.mem_append_right _ (List.mem_append_left _ (List.mem_append_left _ (List.mem_append_right _ List.mem_cons_self))))))))))
set_option maxRecDepth 100000 in
theorem sn_7_6 : Cond.not (Cond.eq (.string RX6 113) (.string RX6 108)) ∈ flatC (Jvm.Cond.and given_1 narrow_1) := (List.mem_append_right _ (List.mem_append_left _ (List.mem_append_left _ (List.mem_append_right _ (List.mem_append_right _ (List.mem_append_left _ (List.mem_append_left _ (List.mem_append_right _ (List.mem_append_right _ (List.mem_append_left _ List.mem_cons_self))))))))))
set_option maxRecDepth 100000 in
theorem sn_7_8 : Cond.not (Cond.eq (.string RX6 113) (.string RX6 148)) ∈ flatC (Jvm.Cond.and given_1 narrow_1) := (List.mem_append_right _ (List.mem_append_left _ (List.mem_append_left _ (List.mem_append_right _ (List.mem_append_right _ (List.mem_append_right _ (List.mem_append_left _ (List.mem_append_right _ (List.mem_append_right _ (List.mem_append_left _ List.mem_cons_self))))))))))
set_option maxRecDepth 100000 in
theorem sn_7_9 : Cond.not (Cond.eq (.string RX6 113) (.string RX6 159)) ∈ flatC (Jvm.Cond.and given_1 narrow_1) := (List.mem_append_right _ (List.mem_append_left _ (List.mem_append_right _ (List.mem_append_left _ (List.mem_append_left _ (List.mem_append_left _ (List.mem_append_left _ (List.mem_append_left _ (List.mem_append_right _ (List.mem_append_right _ List.mem_cons_self))))))))))
set_option maxRecDepth 100000 in
theorem sn_7_10 : Cond.not (Cond.eq (.string RX6 113) (.string RX6 161)) ∈ flatC (Jvm.Cond.and given_1 narrow_1) := (List.mem_append_right _ (List.mem_append_left _ (List.mem_append_right _ (List.mem_append_left _ (List.mem_append_left _ (List.mem_append_right _ (List.mem_append_left _ (List.mem_append_right _ (List.mem_append_left _ (List.mem_append_left _ List.mem_cons_self))))))))))
set_option maxRecDepth 100000 in
theorem sn_7_11 : Cond.not (Cond.eq (.string RX6 113) (.string RX6 163)) ∈ flatC (Jvm.Cond.and given_1 narrow_1) := (List.mem_append_right _ (List.mem_append_left _ (List.mem_append_right _ (List.mem_append_left _ (List.mem_append_right _ (List.mem_append_left _ (List.mem_append_left _ (List.mem_append_right _ (List.mem_append_left _ (List.mem_append_right _ List.mem_cons_self))))))))))
set_option maxRecDepth 100000 in
theorem sn_8_9 : Cond.not (Cond.eq (.string RX6 148) (.string RX6 159)) ∈ flatC (Jvm.Cond.and given_1 narrow_1) := (List.mem_append_right _ (List.mem_append_left _ (List.mem_append_right _ (List.mem_append_left _ (List.mem_append_left _ (List.mem_append_left _ (List.mem_append_right _ (List.mem_append_left _ (List.mem_append_right _ (List.mem_append_left _ List.mem_cons_self))))))))))
set_option maxRecDepth 100000 in
theorem sn_8_10 : Cond.not (Cond.eq (.string RX6 148) (.string RX6 161)) ∈ flatC (Jvm.Cond.and given_1 narrow_1) := (List.mem_append_right _ (List.mem_append_left _ (List.mem_append_right _ (List.mem_append_left _ (List.mem_append_left _ (List.mem_append_right _ (List.mem_append_right _ (List.mem_append_left _ (List.mem_append_right _ (List.mem_append_right _ List.mem_cons_self))))))))))
set_option maxRecDepth 100000 in
theorem sn_8_11 : Cond.not (Cond.eq (.string RX6 148) (.string RX6 163)) ∈ flatC (Jvm.Cond.and given_1 narrow_1) := (List.mem_append_right _ (List.mem_append_left _ (List.mem_append_right _ (List.mem_append_left _ (List.mem_append_right _ (List.mem_append_left _ (List.mem_append_right _ (List.mem_append_right _ (List.mem_append_left _ (List.mem_append_left _ List.mem_cons_self))))))))))
set_option maxRecDepth 100000 in
theorem sn_9_10 : Cond.not (Cond.eq (.string RX6 159) (.string RX6 161)) ∈ flatC (Jvm.Cond.and given_1 narrow_1) := (List.mem_append_right _ (List.mem_append_left _ (List.mem_append_right _ (List.mem_append_left _ (List.mem_append_left _ (List.mem_append_right _ (List.mem_append_right _ (List.mem_append_right _ (List.mem_append_left _ (List.mem_append_left _ List.mem_cons_self))))))))))
set_option maxRecDepth 100000 in
theorem sn_9_11 : Cond.not (Cond.eq (.string RX6 159) (.string RX6 163)) ∈ flatC (Jvm.Cond.and given_1 narrow_1) := (List.mem_append_right _ (List.mem_append_left _ (List.mem_append_right _ (List.mem_append_left _ (List.mem_append_right _ (List.mem_append_left _ (List.mem_append_right _ (List.mem_append_right _ (List.mem_append_left _ (List.mem_append_right _ List.mem_cons_self))))))))))
set_option maxRecDepth 100000 in
theorem sn_10_11 : Cond.not (Cond.eq (.string RX6 161) (.string RX6 163)) ∈ flatC (Jvm.Cond.and given_1 narrow_1) := (List.mem_append_right _ (List.mem_append_left _ (List.mem_append_right _ (List.mem_append_left _ (List.mem_append_right _ (List.mem_append_left _ (List.mem_append_right _ (List.mem_append_right _ (List.mem_append_right _ (List.mem_append_left _ List.mem_cons_self))))))))))
def AllN (P : Nat → Prop) : Nat → Prop
  | 0 => True
  | n + 1 => AllN P n ∧ P n
theorem AllN_at {P : Nat → Prop} : ∀ {n : Nat}, AllN P n → ∀ k, k < n → P k
  | 0, _, k, hk => absurd hk (Nat.not_lt_zero k)
  | n + 1, h, k, hk => if e : k = n then by rw [e]; exact h.2 else AllN_at h.1 k (by omega)
theorem sm_n0 : ∀ j : Nat, j < 12 → 0 ≠ j → Cond.not (Cond.eq (sm_t 0) (sm_t j)) ∈ flatC (Jvm.Cond.and given_1 narrow_1) ∨ Cond.not (Cond.eq (sm_t j) (sm_t 0)) ∈ flatC (Jvm.Cond.and given_1 narrow_1) := by
  apply AllN_at
  refine ⟨?_, fun h => Or.inl sn_0_11⟩
  refine ⟨?_, fun h => Or.inl sn_0_10⟩
  refine ⟨?_, fun h => Or.inl sn_0_9⟩
  refine ⟨?_, fun h => Or.inl sn_0_8⟩
  refine ⟨?_, fun h => Or.inl sn_0_7⟩
  refine ⟨?_, fun h => Or.inl sn_0_6⟩
  refine ⟨?_, fun h => Or.inl sn_0_5⟩
  refine ⟨?_, fun h => Or.inl sn_0_4⟩
  refine ⟨?_, fun h => Or.inl sn_0_3⟩
  refine ⟨?_, fun h => Or.inl sn_0_2⟩
  refine ⟨?_, fun h => Or.inl sn_0_1⟩
  refine ⟨?_, fun h => absurd rfl h⟩
  exact trivial
theorem sm_n1 : ∀ j : Nat, j < 12 → 1 ≠ j → Cond.not (Cond.eq (sm_t 1) (sm_t j)) ∈ flatC (Jvm.Cond.and given_1 narrow_1) ∨ Cond.not (Cond.eq (sm_t j) (sm_t 1)) ∈ flatC (Jvm.Cond.and given_1 narrow_1) := by
  apply AllN_at
  refine ⟨?_, fun h => Or.inl sn_1_11⟩
  refine ⟨?_, fun h => Or.inl sn_1_10⟩
  refine ⟨?_, fun h => Or.inl sn_1_9⟩
  refine ⟨?_, fun h => Or.inl sn_1_8⟩
  refine ⟨?_, fun h => Or.inr sn_7_1⟩
  refine ⟨?_, fun h => Or.inl sn_1_6⟩
  refine ⟨?_, fun h => Or.inl sn_1_5⟩
  refine ⟨?_, fun h => Or.inl sn_1_4⟩
  refine ⟨?_, fun h => Or.inl sn_1_3⟩
  refine ⟨?_, fun h => Or.inl sn_1_2⟩
  refine ⟨?_, fun h => absurd rfl h⟩
  refine ⟨?_, fun h => Or.inr sn_0_1⟩
  exact trivial
theorem sm_n2 : ∀ j : Nat, j < 12 → 2 ≠ j → Cond.not (Cond.eq (sm_t 2) (sm_t j)) ∈ flatC (Jvm.Cond.and given_1 narrow_1) ∨ Cond.not (Cond.eq (sm_t j) (sm_t 2)) ∈ flatC (Jvm.Cond.and given_1 narrow_1) := by
  apply AllN_at
  refine ⟨?_, fun h => Or.inl sn_2_11⟩
  refine ⟨?_, fun h => Or.inl sn_2_10⟩
  refine ⟨?_, fun h => Or.inl sn_2_9⟩
  refine ⟨?_, fun h => Or.inl sn_2_8⟩
  refine ⟨?_, fun h => Or.inr sn_7_2⟩
  refine ⟨?_, fun h => Or.inl sn_2_6⟩
  refine ⟨?_, fun h => Or.inl sn_2_5⟩
  refine ⟨?_, fun h => Or.inl sn_2_4⟩
  refine ⟨?_, fun h => Or.inl sn_2_3⟩
  refine ⟨?_, fun h => absurd rfl h⟩
  refine ⟨?_, fun h => Or.inr sn_1_2⟩
  refine ⟨?_, fun h => Or.inr sn_0_2⟩
  exact trivial
theorem sm_n3 : ∀ j : Nat, j < 12 → 3 ≠ j → Cond.not (Cond.eq (sm_t 3) (sm_t j)) ∈ flatC (Jvm.Cond.and given_1 narrow_1) ∨ Cond.not (Cond.eq (sm_t j) (sm_t 3)) ∈ flatC (Jvm.Cond.and given_1 narrow_1) := by
  apply AllN_at
  refine ⟨?_, fun h => Or.inl sn_3_11⟩
  refine ⟨?_, fun h => Or.inl sn_3_10⟩
  refine ⟨?_, fun h => Or.inl sn_3_9⟩
  refine ⟨?_, fun h => Or.inl sn_3_8⟩
  refine ⟨?_, fun h => Or.inr sn_7_3⟩
  refine ⟨?_, fun h => Or.inl sn_3_6⟩
  refine ⟨?_, fun h => Or.inl sn_3_5⟩
  refine ⟨?_, fun h => Or.inl sn_3_4⟩
  refine ⟨?_, fun h => absurd rfl h⟩
  refine ⟨?_, fun h => Or.inr sn_2_3⟩
  refine ⟨?_, fun h => Or.inr sn_1_3⟩
  refine ⟨?_, fun h => Or.inr sn_0_3⟩
  exact trivial
theorem sm_n4 : ∀ j : Nat, j < 12 → 4 ≠ j → Cond.not (Cond.eq (sm_t 4) (sm_t j)) ∈ flatC (Jvm.Cond.and given_1 narrow_1) ∨ Cond.not (Cond.eq (sm_t j) (sm_t 4)) ∈ flatC (Jvm.Cond.and given_1 narrow_1) := by
  apply AllN_at
  refine ⟨?_, fun h => Or.inl sn_4_11⟩
  refine ⟨?_, fun h => Or.inl sn_4_10⟩
  refine ⟨?_, fun h => Or.inl sn_4_9⟩
  refine ⟨?_, fun h => Or.inl sn_4_8⟩
  refine ⟨?_, fun h => Or.inr sn_7_4⟩
  refine ⟨?_, fun h => Or.inl sn_4_6⟩
  refine ⟨?_, fun h => Or.inl sn_4_5⟩
  refine ⟨?_, fun h => absurd rfl h⟩
  refine ⟨?_, fun h => Or.inr sn_3_4⟩
  refine ⟨?_, fun h => Or.inr sn_2_4⟩
  refine ⟨?_, fun h => Or.inr sn_1_4⟩
  refine ⟨?_, fun h => Or.inr sn_0_4⟩
  exact trivial
theorem sm_n5 : ∀ j : Nat, j < 12 → 5 ≠ j → Cond.not (Cond.eq (sm_t 5) (sm_t j)) ∈ flatC (Jvm.Cond.and given_1 narrow_1) ∨ Cond.not (Cond.eq (sm_t j) (sm_t 5)) ∈ flatC (Jvm.Cond.and given_1 narrow_1) := by
  apply AllN_at
  refine ⟨?_, fun h => Or.inl sn_5_11⟩
  refine ⟨?_, fun h => Or.inl sn_5_10⟩
  refine ⟨?_, fun h => Or.inl sn_5_9⟩
  refine ⟨?_, fun h => Or.inl sn_5_8⟩
  refine ⟨?_, fun h => Or.inr sn_7_5⟩
  refine ⟨?_, fun h => Or.inl sn_5_6⟩
  refine ⟨?_, fun h => absurd rfl h⟩
  refine ⟨?_, fun h => Or.inr sn_4_5⟩
  refine ⟨?_, fun h => Or.inr sn_3_5⟩
  refine ⟨?_, fun h => Or.inr sn_2_5⟩
  refine ⟨?_, fun h => Or.inr sn_1_5⟩
  refine ⟨?_, fun h => Or.inr sn_0_5⟩
  exact trivial
theorem sm_n6 : ∀ j : Nat, j < 12 → 6 ≠ j → Cond.not (Cond.eq (sm_t 6) (sm_t j)) ∈ flatC (Jvm.Cond.and given_1 narrow_1) ∨ Cond.not (Cond.eq (sm_t j) (sm_t 6)) ∈ flatC (Jvm.Cond.and given_1 narrow_1) := by
  apply AllN_at
  refine ⟨?_, fun h => Or.inl sn_6_11⟩
  refine ⟨?_, fun h => Or.inl sn_6_10⟩
  refine ⟨?_, fun h => Or.inl sn_6_9⟩
  refine ⟨?_, fun h => Or.inl sn_6_8⟩
  refine ⟨?_, fun h => Or.inr sn_7_6⟩
  refine ⟨?_, fun h => absurd rfl h⟩
  refine ⟨?_, fun h => Or.inr sn_5_6⟩
  refine ⟨?_, fun h => Or.inr sn_4_6⟩
  refine ⟨?_, fun h => Or.inr sn_3_6⟩
  refine ⟨?_, fun h => Or.inr sn_2_6⟩
  refine ⟨?_, fun h => Or.inr sn_1_6⟩
  refine ⟨?_, fun h => Or.inr sn_0_6⟩
  exact trivial
theorem sm_n7 : ∀ j : Nat, j < 12 → 7 ≠ j → Cond.not (Cond.eq (sm_t 7) (sm_t j)) ∈ flatC (Jvm.Cond.and given_1 narrow_1) ∨ Cond.not (Cond.eq (sm_t j) (sm_t 7)) ∈ flatC (Jvm.Cond.and given_1 narrow_1) := by
  apply AllN_at
  refine ⟨?_, fun h => Or.inl sn_7_11⟩
  refine ⟨?_, fun h => Or.inl sn_7_10⟩
  refine ⟨?_, fun h => Or.inl sn_7_9⟩
  refine ⟨?_, fun h => Or.inl sn_7_8⟩
  refine ⟨?_, fun h => absurd rfl h⟩
  refine ⟨?_, fun h => Or.inl sn_7_6⟩
  refine ⟨?_, fun h => Or.inl sn_7_5⟩
  refine ⟨?_, fun h => Or.inl sn_7_4⟩
  refine ⟨?_, fun h => Or.inl sn_7_3⟩
  refine ⟨?_, fun h => Or.inl sn_7_2⟩
  refine ⟨?_, fun h => Or.inl sn_7_1⟩
  refine ⟨?_, fun h => Or.inr sn_0_7⟩
  exact trivial
theorem sm_n8 : ∀ j : Nat, j < 12 → 8 ≠ j → Cond.not (Cond.eq (sm_t 8) (sm_t j)) ∈ flatC (Jvm.Cond.and given_1 narrow_1) ∨ Cond.not (Cond.eq (sm_t j) (sm_t 8)) ∈ flatC (Jvm.Cond.and given_1 narrow_1) := by
  apply AllN_at
  refine ⟨?_, fun h => Or.inl sn_8_11⟩
  refine ⟨?_, fun h => Or.inl sn_8_10⟩
  refine ⟨?_, fun h => Or.inl sn_8_9⟩
  refine ⟨?_, fun h => absurd rfl h⟩
  refine ⟨?_, fun h => Or.inr sn_7_8⟩
  refine ⟨?_, fun h => Or.inr sn_6_8⟩
  refine ⟨?_, fun h => Or.inr sn_5_8⟩
  refine ⟨?_, fun h => Or.inr sn_4_8⟩
  refine ⟨?_, fun h => Or.inr sn_3_8⟩
  refine ⟨?_, fun h => Or.inr sn_2_8⟩
  refine ⟨?_, fun h => Or.inr sn_1_8⟩
  refine ⟨?_, fun h => Or.inr sn_0_8⟩
  exact trivial
theorem sm_n9 : ∀ j : Nat, j < 12 → 9 ≠ j → Cond.not (Cond.eq (sm_t 9) (sm_t j)) ∈ flatC (Jvm.Cond.and given_1 narrow_1) ∨ Cond.not (Cond.eq (sm_t j) (sm_t 9)) ∈ flatC (Jvm.Cond.and given_1 narrow_1) := by
  apply AllN_at
  refine ⟨?_, fun h => Or.inl sn_9_11⟩
  refine ⟨?_, fun h => Or.inl sn_9_10⟩
  refine ⟨?_, fun h => absurd rfl h⟩
  refine ⟨?_, fun h => Or.inr sn_8_9⟩
  refine ⟨?_, fun h => Or.inr sn_7_9⟩
  refine ⟨?_, fun h => Or.inr sn_6_9⟩
  refine ⟨?_, fun h => Or.inr sn_5_9⟩
  refine ⟨?_, fun h => Or.inr sn_4_9⟩
  refine ⟨?_, fun h => Or.inr sn_3_9⟩
  refine ⟨?_, fun h => Or.inr sn_2_9⟩
  refine ⟨?_, fun h => Or.inr sn_1_9⟩
  refine ⟨?_, fun h => Or.inr sn_0_9⟩
  exact trivial
theorem sm_n10 : ∀ j : Nat, j < 12 → 10 ≠ j → Cond.not (Cond.eq (sm_t 10) (sm_t j)) ∈ flatC (Jvm.Cond.and given_1 narrow_1) ∨ Cond.not (Cond.eq (sm_t j) (sm_t 10)) ∈ flatC (Jvm.Cond.and given_1 narrow_1) := by
  apply AllN_at
  refine ⟨?_, fun h => Or.inl sn_10_11⟩
  refine ⟨?_, fun h => absurd rfl h⟩
  refine ⟨?_, fun h => Or.inr sn_9_10⟩
  refine ⟨?_, fun h => Or.inr sn_8_10⟩
  refine ⟨?_, fun h => Or.inr sn_7_10⟩
  refine ⟨?_, fun h => Or.inr sn_6_10⟩
  refine ⟨?_, fun h => Or.inr sn_5_10⟩
  refine ⟨?_, fun h => Or.inr sn_4_10⟩
  refine ⟨?_, fun h => Or.inr sn_3_10⟩
  refine ⟨?_, fun h => Or.inr sn_2_10⟩
  refine ⟨?_, fun h => Or.inr sn_1_10⟩
  refine ⟨?_, fun h => Or.inr sn_0_10⟩
  exact trivial
theorem sm_n11 : ∀ j : Nat, j < 12 → 11 ≠ j → Cond.not (Cond.eq (sm_t 11) (sm_t j)) ∈ flatC (Jvm.Cond.and given_1 narrow_1) ∨ Cond.not (Cond.eq (sm_t j) (sm_t 11)) ∈ flatC (Jvm.Cond.and given_1 narrow_1) := by
  apply AllN_at
  refine ⟨?_, fun h => absurd rfl h⟩
  refine ⟨?_, fun h => Or.inr sn_10_11⟩
  refine ⟨?_, fun h => Or.inr sn_9_11⟩
  refine ⟨?_, fun h => Or.inr sn_8_11⟩
  refine ⟨?_, fun h => Or.inr sn_7_11⟩
  refine ⟨?_, fun h => Or.inr sn_6_11⟩
  refine ⟨?_, fun h => Or.inr sn_5_11⟩
  refine ⟨?_, fun h => Or.inr sn_4_11⟩
  refine ⟨?_, fun h => Or.inr sn_3_11⟩
  refine ⟨?_, fun h => Or.inr sn_2_11⟩
  refine ⟨?_, fun h => Or.inr sn_1_11⟩
  refine ⟨?_, fun h => Or.inr sn_0_11⟩
  exact trivial
theorem sm_ne : ∀ i : Nat, i < 12 → ∀ j : Nat, j < 12 → i ≠ j → Cond.not (Cond.eq (sm_t i) (sm_t j)) ∈ flatC (Jvm.Cond.and given_1 narrow_1) ∨ Cond.not (Cond.eq (sm_t j) (sm_t i)) ∈ flatC (Jvm.Cond.and given_1 narrow_1) := by
  apply AllN_at
  refine ⟨?_, sm_n11⟩
  refine ⟨?_, sm_n10⟩
  refine ⟨?_, sm_n9⟩
  refine ⟨?_, sm_n8⟩
  refine ⟨?_, sm_n7⟩
  refine ⟨?_, sm_n6⟩
  refine ⟨?_, sm_n5⟩
  refine ⟨?_, sm_n4⟩
  refine ⟨?_, sm_n3⟩
  refine ⟨?_, sm_n2⟩
  refine ⟨?_, sm_n1⟩
  refine ⟨?_, sm_n0⟩
  exact trivial
set_option maxRecDepth 100000 in
theorem zi_UNASSIGNED_STACK : Cond.isRef (.static Bundle.tN "UNASSIGNED_STACK" Bundle.steD) ∈ flatC (Jvm.Cond.and given_1 narrow_1) := by decide +kernel
set_option maxRecDepth 100000 in
theorem zl_UNASSIGNED_STACK : Cond.laysStatic Bundle.tN "UNASSIGNED_STACK" Bundle.steD ∈ lw_tbl := by decide +kernel
set_option maxRecDepth 100000 in
theorem zi_SUPPRESSED_SENTINEL : Cond.isRef (.static Bundle.tN "SUPPRESSED_SENTINEL" Bundle.listD) ∈ flatC (Jvm.Cond.and given_1 narrow_1) := by decide +kernel
set_option maxRecDepth 100000 in
theorem zl_SUPPRESSED_SENTINEL : Cond.laysStatic Bundle.tN "SUPPRESSED_SENTINEL" Bundle.listD ∈ lw_tbl := by decide +kernel
set_option maxRecDepth 100000 in
theorem zt_ini : Cond.initialized Bundle.tN ∈ lw_tbl := by decide +kernel
set_option maxRecDepth 100000 in
theorem zl_CS : Cond.laysStatic "java/lang/String" "COMPACT_STRINGS" "Z" ∈ lw_tbl := tk_3 (j := 46) rfl
set_option maxRecDepth 100000 in
theorem zn_CS : Cond.initialized "java/lang/String" ∈ lw_tbl := tk_1 (j := 14) rfl
set_option maxRecDepth 100000 in
theorem ze_CS : Cond.eq (.static "java/lang/String" "COMPACT_STRINGS" "Z") (.int 1) ∈ flatC (Jvm.Cond.and given_1 narrow_1) := by decide +kernel
set_option maxRecDepth 100000 in
theorem zl_SI : Cond.laysStatic "jdk/internal/util/Preconditions" "SIOOBE_FORMATTER" "Ljava/util/function/BiFunction;" ∈ lw_tbl := tk_3 (j := 62) rfl
set_option maxRecDepth 100000 in
theorem zn_SI : Cond.initialized "jdk/internal/util/Preconditions" ∈ lw_tbl := tk_1 (j := 16) rfl
set_option maxRecDepth 100000 in
theorem ze_SI : Cond.isRef (.static "jdk/internal/util/Preconditions" "SIOOBE_FORMATTER" "Ljava/util/function/BiFunction;") ∈ flatC (Jvm.Cond.and given_1 narrow_1) := by decide +kernel
set_option maxRecDepth 100000 in
theorem zt_d1 : Cond.declares (Bundle.initS "java/lang/RuntimeException") ∈ lw_tbl := by decide +kernel
set_option maxRecDepth 100000 in
theorem zt_d2 : Cond.declares (Bundle.initS "java/lang/Exception") ∈ lw_tbl := by decide +kernel
set_option maxRecDepth 100000 in
theorem zt_d3 : Cond.declares (Bundle.initS "java/lang/Throwable") ∈ lw_tbl := by decide +kernel
set_option maxRecDepth 100000 in
theorem zt_cast : Cond.castable "java/util/NoSuchElementException" "java/util/NoSuchElementException" ∈ lw_tbl := tk_6 (j := 21) rfl
set_option maxRecDepth 100000 in
theorem zt_aoJ : Cond.arrayOver (.array .long) ∈ lw_tbl := tk_2 (j := 3) rfl
set_option maxRecDepth 100000 in
theorem zt_aoI : Cond.arrayOver (.array .int) ∈ lw_tbl := tk_2 (j := 157) rfl
set_option maxRecDepth 100000 in
theorem zn_RX6_11 : Cond.methodLinkNest RX6 11 yX1_init "NotAtOnce" ∈ lw_tbl := tk_1 (j := 40) rfl
set_option maxRecDepth 100000 in
theorem zn_RX10_24 : Cond.methodLinkNest RX10 24 yX8_init "NotAtOnce" ∈ lw_tbl := tk_1 (j := 169) rfl
set_option maxRecDepth 100000 in
theorem zn_RX10_40 : Cond.methodLinkNest RX10 40 yX2_init "NotAtOnce" ∈ lw_tbl := tk_1 (j := 225) rfl
set_option maxRecDepth 100000 in
theorem zn_RX10_56 : Cond.methodLinkNest RX10 56 yX5_init "NotAtOnce" ∈ lw_tbl := tk_2 (j := 34) rfl
set_option maxRecDepth 100000 in
theorem zn_RX10_63 : Cond.methodLinkNest RX10 63 yX3_init "NotAtOnce" ∈ lw_tbl := tk_2 (j := 63) rfl
set_option maxRecDepth 100000 in
theorem zn_RX10_70 : Cond.methodLinkNest RX10 70 yX9_init "NotAtOnce" ∈ lw_tbl := tk_2 (j := 113) rfl
set_option maxRecDepth 100000 in
theorem zn_RX3_83 : Cond.methodLinkNest RX3 83 yX10_bitAt "NotAtOnce" ∈ lw_tbl := tk_5 (j := 86) rfl
set_option maxRecDepth 100000 in
theorem zc_0 : Cond.instantiable RX0 9 ∈ lw_tbl := tk_1 (j := 237) rfl
set_option maxRecDepth 100000 in
theorem zc_1 : Cond.instantiable RX1 16 ∈ lw_tbl := tk_1 (j := 39) rfl
set_option maxRecDepth 100000 in
theorem zc_2 : Cond.instantiable RX2 2 ∈ lw_tbl := tk_1 (j := 224) rfl
set_option maxRecDepth 100000 in
theorem zc_3 : Cond.instantiable RX3 12 ∈ lw_tbl := tk_2 (j := 62) rfl
set_option maxRecDepth 100000 in
theorem zc_4 : Cond.instantiable RX4 7 ∈ lw_tbl := tk_2 (j := 151) rfl
set_option maxRecDepth 100000 in
theorem zc_5 : Cond.instantiable RX5 6 ∈ lw_tbl := tk_2 (j := 33) rfl
set_option maxRecDepth 100000 in
theorem zc_6 : Cond.instantiable RX6 12 ∈ lw_tbl := tk_1 (j := 33) rfl
set_option maxRecDepth 100000 in
theorem zc_7 : Cond.instantiable RX7 1 ∈ lw_tbl := tk_1 (j := 214) rfl
set_option maxRecDepth 100000 in
theorem zc_8 : Cond.instantiable RX8 8 ∈ lw_tbl := tk_1 (j := 168) rfl
set_option maxRecDepth 100000 in
theorem zc_9 : Cond.instantiable RX9 10 ∈ lw_tbl := tk_2 (j := 112) rfl
set_option maxRecDepth 100000 in
theorem zc_10 : Cond.instantiable RX10 14 ∈ lw_tbl := tk_1 (j := 25) rfl
set_option maxRecDepth 100000 in
theorem zc_11 : Cond.instantiable RX11 40 ∈ lw_tbl := tk_6 (j := 86) rfl
theorem st_mXC {s : State} {b L : Nat} {xs : Nat → Int32} (hts : ∀ w ∈ lw_tbl, w.before #[Value.ref b] s = true) (hgs : ∀ w ∈ flatC (Jvm.Cond.and given_1 narrow_1), w.before #[Value.ref b] s = true) (hX : va_X b L xs s s.heap) (hbl : b < s.heap.size) : ∃ (adK adV : Nat → Nat) (fv : Value), ∀ (l : Launch) (D : va_G) (ad : Nat → Nat) (cl : Nat → ClassId), mXC (l, D, ad, (fun q : Nat => s.heap.size ≤ q), cl, adK, adV, b, L, xs, fv) s := by
  have hA : ∀ a : Nat, a < s.heap.size → ¬ (fun q : Nat => s.heap.size ≤ q) a := fun a h h2 => absurd h (Nat.not_lt.mpr h2)
  obtain ⟨adK, adV, hS, hE⟩ := vk_Sof (args := #[Value.ref b]) (s := s) (N := 12) (tm := sm_t) (len := lenJS) (byt := bytJS) (A := (fun q : Nat => s.heap.size ≤ q)) (by decide) (fun i hi => hgs _ (sm_ex i hi)) (fun i hi => hgs _ (sm_co i hi)) (fun i hi => hgs _ (sm_ar i hi)) (fun i hi => hgs _ (sm_le i hi)) (fun i hi j hj => hgs _ (sm_el i hi j hj)) (fun i j hi hj hij => (sm_ne i hi j hj hij).elim (fun h => Or.inl (hgs _ h)) (fun h => Or.inr (hgs _ h))) hA
  have hR : ∀ q ∈ strJS, vk_R q.1 q.2.1 q.2.2.1 (adK q.2.2.2) s := by
    have e0 : (Term.string RX6 77).eval #[Value.ref b] s none [] s = some (.ref (adK 0)) := hE 0 (by decide)
    have e1 : (Term.string RX6 85).eval #[Value.ref b] s none [] s = some (.ref (adK 1)) := hE 1 (by decide)
    have e2 : (Term.string RX6 91).eval #[Value.ref b] s none [] s = some (.ref (adK 2)) := hE 2 (by decide)
    have e3 : (Term.string RX6 93).eval #[Value.ref b] s none [] s = some (.ref (adK 3)) := hE 3 (by decide)
    have e4 : (Term.string RX6 98).eval #[Value.ref b] s none [] s = some (.ref (adK 4)) := hE 4 (by decide)
    have e5 : (Term.string RX6 103).eval #[Value.ref b] s none [] s = some (.ref (adK 5)) := hE 5 (by decide)
    have e6 : (Term.string RX6 108).eval #[Value.ref b] s none [] s = some (.ref (adK 6)) := hE 6 (by decide)
    have e7 : (Term.string RX6 113).eval #[Value.ref b] s none [] s = some (.ref (adK 7)) := hE 7 (by decide)
    have e8 : (Term.string RX6 148).eval #[Value.ref b] s none [] s = some (.ref (adK 8)) := hE 8 (by decide)
    have e9 : (Term.string RX6 159).eval #[Value.ref b] s none [] s = some (.ref (adK 9)) := hE 9 (by decide)
    have e10 : (Term.string RX6 161).eval #[Value.ref b] s none [] s = some (.ref (adK 10)) := hE 10 (by decide)
    have e11 : (Term.string RX6 163).eval #[Value.ref b] s none [] s = some (.ref (adK 11)) := hE 11 (by decide)
    exact List.forall_mem_cons.mpr ⟨vk_R.of (hts _ st_RX6_77) e0, List.forall_mem_cons.mpr ⟨vk_R.of (hts _ st_RX6_85) e1, List.forall_mem_cons.mpr ⟨vk_R.of (hts _ st_RX6_91) e2, List.forall_mem_cons.mpr ⟨vk_R.of (hts _ st_RX6_93) e3, List.forall_mem_cons.mpr ⟨vk_R.of (hts _ st_RX6_98) e4, List.forall_mem_cons.mpr ⟨vk_R.of (hts _ st_RX6_103) e5, List.forall_mem_cons.mpr ⟨vk_R.of (hts _ st_RX6_108) e6, List.forall_mem_cons.mpr ⟨vk_R.of (hts _ st_RX6_113) e7, List.forall_mem_cons.mpr ⟨vk_R.of (hts _ st_RX6_148) e8, List.forall_mem_cons.mpr ⟨vk_R.of (hts _ st_RX6_159) e9, List.forall_mem_cons.mpr ⟨vk_R.of (hts _ st_RX6_161) e10, List.forall_mem_cons.mpr ⟨vk_R.of (hts _ st_RX6_163) e11, List.forall_mem_cons.mpr ⟨vk_R.of (hts _ st_RX11_138) (va_eqR (hgs _ se_138) e0), List.forall_mem_cons.mpr ⟨vk_R.of (hts _ st_RX11_140) (va_eqR (hgs _ se_140) e1), List.forall_mem_cons.mpr ⟨vk_R.of (hts _ st_RX11_142) (va_eqR (hgs _ se_142) e2), List.forall_mem_cons.mpr ⟨vk_R.of (hts _ st_RX11_144) (va_eqR (hgs _ se_144) e3), List.forall_mem_cons.mpr ⟨vk_R.of (hts _ st_RX11_146) (va_eqR (hgs _ se_146) e4), List.forall_mem_cons.mpr ⟨vk_R.of (hts _ st_RX11_148) (va_eqR (hgs _ se_148) e5), List.forall_mem_cons.mpr ⟨vk_R.of (hts _ st_RX11_150) (va_eqR (hgs _ se_150) e6), List.forall_mem_cons.mpr ⟨vk_R.of (hts _ st_RX11_221) (va_eqR (hgs _ se_221) e7), List.forall_mem_cons.mpr ⟨vk_R.of (hts _ st_RX11_234) (va_eqR (hgs _ se_234) e8), List.forall_mem_cons.mpr ⟨vk_R.of (hts _ st_RX11_238) (va_eqR (hgs _ se_238) e9), List.forall_mem_cons.mpr ⟨vk_R.of (hts _ st_RX11_240) (va_eqR (hgs _ se_240) e11), List.forall_mem_cons.mpr ⟨vk_R.of (hts _ st_RX11_242) (va_eqR (hgs _ se_242) e10), fun _ h => absurd h List.not_mem_nil⟩⟩⟩⟩⟩⟩⟩⟩⟩⟩⟩⟩⟩⟩⟩⟩⟩⟩⟩⟩⟩⟩⟩⟩
  have hC := va_Zof (A := (fun q : Nat => s.heap.size ≤ q)) (hts _ zl_CS) (hts _ zn_CS) (va_eqt (hgs _ ze_CS)) hA
  have hN := va_Nw.of rfl (hts _ zn_RX3_83)
  have hI := va_AOA.of (hts _ zt_aoI)
  rcases va_Zqof (A := (fun q : Nat => s.heap.size ≤ q)) (hts _ zl_SI) (hts _ zn_SI) (hgs _ ze_SI) hA with hF | ⟨t, hF⟩
  · exact ⟨adK, adV, .null, fun l D ad cl => ⟨hS, hR, hX, hbl, Nat.not_le.mpr hbl, hN, hC, hI, hF⟩⟩
  · exact ⟨adK, adV, .ref t, fun l D ad cl => ⟨hS, hR, hX, hbl, Nat.not_le.mpr hbl, hN, hC, hI, hF⟩⟩
