set_option maxRecDepth 100000 in
set_option maxHeartbeats 4000000 in
theorem s_X8_hasLook {g : gT} {h : mh_T} {P : Int32 → mh_T → Prop} (l1 : Int32) (hG : GI h)  (hp : ∀ r : Int32, R 0 1 r → (¬ r = 0 → R 0 5 l1) → P r h) : MCi g yX8_hasLook uX8_hasLook [.ref 3, .int l1] h P := by
  have ok : Ok [] h h := Ok_rf hG
  refine e_X8_hasLook l1  ?_
  refine ⟨fun c_16 => ?_, fun c_16 => ?_⟩
  · have f_17 : R 0 0 0 := ⟨by decide, by decide⟩
    have f_18 : R (-2147483648) (-1) l1 := rf_lt_l (R_full l1) f_17 c_16 (-1) (by decide)
    have f_19 : R 0 0 0 := ⟨by decide, by decide⟩
    exact hp _ (R_w f_19 (by decide)) (fun z => absurd rfl z)
  · have f_20 : R 0 0 0 := ⟨by decide, by decide⟩
    have f_21 : R 0 2147483647 l1 := rf_le_r f_20 (R_full l1) (nlt c_16) 0 (by decide)
    refine ⟨fun c_22 => ?_, fun c_22 => ?_⟩
    · have f_23 : R 0 6 (mI h 3 1) := GI_rd ok.1 3 _ (by decide)
      have f_24 : R 0 0 0 := ⟨by decide, by decide⟩
      exact hp _ (R_w f_24 (by decide)) (fun z => absurd rfl z)
    · have f_25 : R 0 6 (mI h 3 1) := GI_rd ok.1 3 _ (by decide)
      have f_26 : R 0 5 l1 := rf_lt_l f_21 f_25 (nle c_22) 5 (by decide)
      have f_27 : R 1 6 (mI h 3 1) := rf_lt_r f_21 f_25 (nle c_22) 1 (by decide)
      have f_28 : R 1 1 1 := ⟨by decide, by decide⟩
      have f_29 : R 1 1 1 := ⟨by decide, by decide⟩
      have f_30 : R 0 0 0 := ⟨by decide, by decide⟩
      exact hp _ (R_w f_28 (by decide)) (fun _ => R_w f_26 (by decide))
set_option maxRecDepth 100000 in
set_option maxHeartbeats 4000000 in
theorem s_X8_outcomes {g : gT} {h : mh_T} {P : Int32 → mh_T → Prop} (l1 : Int32) (hG : GI h) (fl1 : R 0 7 l1) (hp : ∀ r : Int32, R 2 4 r → P r h) : MCi g yX8_outcomes uX8_outcomes [.ref 3, .int l1] h P := by
  have ok : Ok [] h h := Ok_rf hG
  refine e_X8_outcomes l1  ?_
  refine ⟨vin fl1 (by decide), ?_⟩
  refine ⟨fun c_10 => ?_, fun c_10 => ?_⟩
  · have f_11 : R (-2) 5 (mI h 25 l1.toNatClampNeg) := GI_rd ok.1 25 _ rfl
    have f_12 : R 0 0 0 := ⟨by decide, by decide⟩
    have f_13 : R 0 5 (mI h 25 l1.toNatClampNeg) := rf_le_r f_12 f_11 c_10 0 (by decide)
    have f_14 : R 4 4 4 := ⟨by decide, by decide⟩
    exact hp _ (R_w f_14 (by decide))
  · have f_15 : R (-2) 5 (mI h 25 l1.toNatClampNeg) := GI_rd ok.1 25 _ rfl
    have f_16 : R 0 0 0 := ⟨by decide, by decide⟩
    have f_17 : R (-2) (-1) (mI h 25 l1.toNatClampNeg) := rf_lt_l f_15 f_16 (nle c_10) (-1) (by decide)
    have f_18 : R 2 2 2 := ⟨by decide, by decide⟩
    exact hp _ (R_w f_18 (by decide))
set_option maxRecDepth 100000 in
set_option maxHeartbeats 4000000 in
theorem s_X8_hasOutcome {g : gT} {h : mh_T} {P : Int32 → mh_T → Prop} (l1 : Int32) (l2 : Int32) (hG : GI h)  (hp : ∀ r : Int32, R 0 1 r → (¬ r = 0 → R 0 7 l1 ∧ R 0 3 l2) → P r h) : MCi g yX8_hasOutcome uX8_hasOutcome [.ref 3, .int l1, .int l2] h P := by
  have ok : Ok [] h h := Ok_rf hG
  refine e_X8_hasOutcome l1 l2  ?_
  refine s_X8_hasSet l1 ok.1 (fun r2 f_26 im_25 => ?_)
  refine ⟨fun c_27 => ?_, fun c_27 => ?_⟩
  · have f_28 : R 0 0 0 := ⟨by decide, by decide⟩
    have f_29 : R 0 0 r2 := rf_eq f_28 c_27
    have f_30 : R 0 0 0 := ⟨by decide, by decide⟩
    exact hp _ (R_w f_30 (by decide)) (fun z => absurd rfl z)
  · have f_31 : R 0 0 0 := ⟨by decide, by decide⟩
    have f_32 := (im_25 c_27).1
    have f_33 := (im_25 c_27).2
    have f_34 : R 1 1 r2 := rf_ne_lo f_26 c_27 (by decide) 1 rfl
    refine ⟨fun c_35 => ?_, fun c_35 => ?_⟩
    · have f_36 : R 0 0 0 := ⟨by decide, by decide⟩
      have f_37 : R (-2147483648) (-1) l2 := rf_lt_l (R_full l2) f_36 c_35 (-1) (by decide)
      have f_38 : R 0 0 0 := ⟨by decide, by decide⟩
      exact hp _ (R_w f_38 (by decide)) (fun z => absurd rfl z)
    · have f_39 : R 0 0 0 := ⟨by decide, by decide⟩
      have f_40 : R 0 2147483647 l2 := rf_le_r f_39 (R_full l2) (nlt c_35) 0 (by decide)
      refine s_X8_outcomes l1 ok.1 (R_w f_32 (by decide)) (fun r6 f_41 => ?_)
      refine ⟨fun c_42 => ?_, fun c_42 => ?_⟩
      · have f_43 : R 2 2147483647 l2 := rf_le_r f_41 f_40 c_42 2 (by decide)
        have f_44 : R 0 0 0 := ⟨by decide, by decide⟩
        exact hp _ (R_w f_44 (by decide)) (fun z => absurd rfl z)
      · have f_45 : R 0 3 l2 := rf_lt_l f_40 f_41 (nle c_42) 3 (by decide)
        have f_46 : R 1 1 1 := ⟨by decide, by decide⟩
        have f_47 : R 1 1 1 := ⟨by decide, by decide⟩
        have f_48 : R 0 0 0 := ⟨by decide, by decide⟩
        exact hp _ (R_w f_46 (by decide)) (fun _ => ⟨R_w f_32 (by decide), R_w f_45 (by decide)⟩)
set_option maxRecDepth 100000 in
set_option maxHeartbeats 4000000 in
theorem s_X8_fitting_L {g : gT} {h0 : mh_T} {P : Int32 → mh_T → Prop} (hG0 : GI h0) (hp : ∀ r : Int32, P r h0) : ∀ n : Nat, (∀ (l1 : Int32) (l2 : Int32), R (-2147483648) 2147483647 l1 → R 0 64 l2 → 1 * gap 64 l2 + 0 < n → ME g uX8_fitting 4 [.ref 3, .int l1, .int l2] [] h0 (qI P)) := by
  intro n
  induction n with
  | zero =>
    exact (fun _ _ _ _ hm => absurd hm (Nat.not_lt_zero _))
  | succ n ih =>
    intro l1 l2  fl1 fl2     hm
    have ok : Ok [] h0 h0 := Ok_rf hG0
    refine r_X8_fitting_4 l1 l2  ?_
    refine s_X8_hiddenAnswers ok.1 (fun r2 f_992 => ?_)
    refine ⟨fun c_993 => ?_, fun c_993 => ?_⟩
    · have f_994 : R 1 64 l2 := rf_le_r f_992 fl2 c_993 1 (by decide)
      exact hp _ 
    · have f_995 : R 0 63 l2 := rf_lt_l fl2 f_992 (nle c_993) 63 (by decide)
      refine s_X8_missed l2 ok.1 (fun r5 f_996 => ?_)
      refine ⟨fun c_997 => ?_, fun c_997 => ?_⟩
      · have f_998 : R 0 0 0 := ⟨by decide, by decide⟩
        have f_999 : R 1 255 r5 := rf_ne_lo f_996 c_997 (by decide) 1 rfl
        have f_1001 : R 1 1 1 := ⟨by decide, by decide⟩
        have f_1000 : R 1 64 (l2 + 1) := R_add f_995 f_1001 1 64 (by decide)
        have g_1002 := gap_inc (N := 64) f_995 (by decide)
        exact ih l1 (l2 + 1)  (R_w fl1 (by decide)) (R_w f_1000 (by decide)) (by omega)
      · have f_1003 : R 0 0 0 := ⟨by decide, by decide⟩
        have f_1004 : R 0 0 r5 := rf_eq f_1003 c_997
        have f_1006 : R 1 1 1 := ⟨by decide, by decide⟩
        have f_1005 : R (-2147483648) 2147483647 (l1 + 1) := R_full _
        have f_1008 : R 1 1 1 := ⟨by decide, by decide⟩
        have f_1007 : R 1 64 (l2 + 1) := R_add f_995 f_1008 1 64 (by decide)
        have g_1009 := gap_inc (N := 64) f_995 (by decide)
        exact ih (l1 + 1) (l2 + 1)  (R_w f_1005 (by decide)) (R_w f_1007 (by decide)) (by omega)
set_option maxRecDepth 100000 in
set_option maxHeartbeats 4000000 in
theorem s_X8_fitting {g : gT} {h : mh_T} {P : Int32 → mh_T → Prop}  (hG : GI h)  (hp : ∀ r : Int32, P r h) : MCi g yX8_fitting uX8_fitting [.ref 3] h P := by
  have ok : Ok [] h h := Ok_rf hG
  have L0 := s_X8_fitting_L (g := g) hG hp 65
  refine e_X8_fitting   ?_
  have f_1010 : R 0 0 0 := ⟨by decide, by decide⟩
  have f_1011 : R 0 0 0 := ⟨by decide, by decide⟩
  have f_1012 : R 0 0 0 := ⟨by decide, by decide⟩
  have g_1013 := gap_le (N := 64) f_1012 (m := 64) (by decide)
  exact L0 0 0  (R_w f_1010 (by decide)) (R_w f_1011 (by decide)) (by omega)
set_option maxRecDepth 100000 in
set_option maxHeartbeats 4000000 in
theorem s_X8_fittingAt_L {g : gT} {h0 : mh_T} {P : Int32 → mh_T → Prop} (hG0 : GI h0) (hp : ∀ r : Int32, R (-1) 63 r → P r h0) : ∀ n : Nat, (∀ (l1 : Int32) (l2 : Int32) (l3 : Int32), R (-2147483648) 2147483647 l1 → R (-2147483648) 2147483647 l2 → R 0 64 l3 → 1 * gap 64 l3 + 0 < n → ME g uX8_fittingAt 4 [.ref 3, .int l1, .int l2, .int l3] [] h0 (qI P)) := by
  intro n
  induction n with
  | zero =>
    exact (fun _ _ _ _ _ _ hm => absurd hm (Nat.not_lt_zero _))
  | succ n ih =>
    intro l1 l2 l3  fl1 fl2 fl3     hm
    have ok : Ok [] h0 h0 := Ok_rf hG0
    refine r_X8_fittingAt_4 l1 l2 l3  ?_
    refine s_X8_hiddenAnswers ok.1 (fun r2 f_1155 => ?_)
    refine ⟨fun c_1156 => ?_, fun c_1156 => ?_⟩
    · have f_1157 : R 1 64 l3 := rf_le_r f_1155 fl3 c_1156 1 (by decide)
      have f_1158 : R (-1) (-1) (-1) := ⟨by decide, by decide⟩
      exact hp _ (R_w f_1158 (by decide))
    · have f_1159 : R 0 63 l3 := rf_lt_l fl3 f_1155 (nle c_1156) 63 (by decide)
      refine s_X8_missed l3 ok.1 (fun r5 f_1160 => ?_)
      refine ⟨fun c_1161 => ?_, fun c_1161 => ?_⟩
      · have f_1162 : R 0 0 0 := ⟨by decide, by decide⟩
        have f_1163 : R 1 255 r5 := rf_ne_lo f_1160 c_1161 (by decide) 1 rfl
        have f_1165 : R 1 1 1 := ⟨by decide, by decide⟩
        have f_1164 : R 1 64 (l3 + 1) := R_add f_1159 f_1165 1 64 (by decide)
        have g_1166 := gap_inc (N := 64) f_1159 (by decide)
        exact ih l1 l2 (l3 + 1)  (R_w fl1 (by decide)) (R_w fl2 (by decide)) (R_w f_1164 (by decide)) (by omega)
      · have f_1167 : R 0 0 0 := ⟨by decide, by decide⟩
        have f_1168 : R 0 0 r5 := rf_eq f_1167 c_1161
        refine ⟨fun c_1169 => ?_, fun c_1169 => ?_⟩
        · have f_1171 : R 1 1 1 := ⟨by decide, by decide⟩
          have f_1170 : R (-2147483648) 2147483647 (l2 + 1) := R_full _
          have f_1173 : R 1 1 1 := ⟨by decide, by decide⟩
          have f_1172 : R 1 64 (l3 + 1) := R_add f_1159 f_1173 1 64 (by decide)
          have g_1174 := gap_inc (N := 64) f_1159 (by decide)
          exact ih l1 (l2 + 1) (l3 + 1)  (R_w fl1 (by decide)) (R_w f_1170 (by decide)) (R_w f_1172 (by decide)) (by omega)
        · exact hp _ (R_w f_1159 (by decide))
set_option maxRecDepth 100000 in
set_option maxHeartbeats 4000000 in
theorem s_X8_fittingAt {g : gT} {h : mh_T} {P : Int32 → mh_T → Prop} (l1 : Int32) (hG : GI h)  (hp : ∀ r : Int32, R (-1) 63 r → P r h) : MCi g yX8_fittingAt uX8_fittingAt [.ref 3, .int l1] h P := by
  have ok : Ok [] h h := Ok_rf hG
  have L0 := s_X8_fittingAt_L (g := g) hG hp 65
  refine e_X8_fittingAt l1  ?_
  have f_1175 : R 0 0 0 := ⟨by decide, by decide⟩
  have f_1176 : R 0 0 0 := ⟨by decide, by decide⟩
  have f_1177 : R 0 0 0 := ⟨by decide, by decide⟩
  have g_1178 := gap_le (N := 64) f_1177 (m := 64) (by decide)
  exact L0 l1 0 0  (R_w (R_full l1) (by decide)) (R_w f_1175 (by decide)) (R_w f_1176 (by decide)) (by omega)
set_option maxRecDepth 100000 in
set_option maxHeartbeats 4000000 in
theorem s_X8_possible_L {g : gT} {h0 : mh_T} {P : Int32 → mh_T → Prop} (hG0 : GI h0) (hp : ∀ r : Int32, P r h0) : ∀ n : Nat, (∀ (l1 : Int32) (l2 : Int32), R (-2147483648) 2147483647 l1 → R 0 32 l2 → 1 * gap 32 l2 + 0 < n → ME g uX8_possible 4 [.ref 3, .int l1, .int l2] [] h0 (qI P)) := by
  intro n
  induction n with
  | zero =>
    exact (fun _ _ _ _ hm => absurd hm (Nat.not_lt_zero _))
  | succ n ih =>
    intro l1 l2  fl1 fl2     hm
    have ok : Ok [] h0 h0 := Ok_rf hG0
    refine r_X8_possible_4 l1 l2  ?_
    refine ⟨fun c_578 => ?_, fun c_578 => ?_⟩
    · have f_580 : R 4 4 4 := ⟨by decide, by decide⟩
      have f_581 : R 0 8 (mI h0 3 2) := GI_rd ok.1 3 _ (by decide)
      have f_579 : R 0 32 (4 * (mI h0 3 2)) := R_mul f_580 f_581 0 32 (by decide)
      exact hp _ 
    · have f_583 : R 4 4 4 := ⟨by decide, by decide⟩
      have f_584 : R 0 8 (mI h0 3 2) := GI_rd ok.1 3 _ (by decide)
      have f_582 : R 0 32 (4 * (mI h0 3 2)) := R_mul f_583 f_584 0 32 (by decide)
      have f_585 : R 0 31 l2 := rf_lt_l fl2 f_582 (nle c_578) 31 (by decide)
      have f_586 : R 1 32 (4 * (mI h0 3 2)) := rf_lt_r fl2 f_582 (nle c_578) 1 (by decide)
      refine ⟨vin f_585 (by decide), ?_⟩
      refine ⟨fun c_587 => ?_, fun c_587 => ?_⟩
      · have f_588 : R (-2147483648) 2147483647 (mI h0 26 l2.toNatClampNeg) := R_full _
        have f_589 : R 0 0 0 := ⟨by decide, by decide⟩
        have f_590 : R (-2147483648) 0 (mI h0 26 l2.toNatClampNeg) := rf_le_l f_588 f_589 c_587 0 (by decide)
        have f_592 : R 1 1 1 := ⟨by decide, by decide⟩
        have f_591 : R 1 32 (l2 + 1) := R_add f_585 f_592 1 32 (by decide)
        have g_593 := gap_inc (N := 32) f_585 (by decide)
        exact ih l1 (l2 + 1)  (R_w fl1 (by decide)) (R_w f_591 (by decide)) (by omega)
      · have f_594 : R (-2147483648) 2147483647 (mI h0 26 l2.toNatClampNeg) := R_full _
        have f_595 : R 0 0 0 := ⟨by decide, by decide⟩
        have f_596 : R 1 2147483647 (mI h0 26 l2.toNatClampNeg) := rf_lt_r f_595 f_594 (nle c_587) 1 (by decide)
        intro x4 ex4
        have f_598 : R (-2147483648) 2147483647 (1 <<< (l2 &&& 31)) := R_full _
        have f_597 : R (-2147483648) 2147483647 (l1 ||| (1 <<< (l2 &&& 31))) := R_full _
        have f_599 : R (-2147483648) 2147483647 x4 := rf_eq f_597 ex4
        have f_601 : R 1 1 1 := ⟨by decide, by decide⟩
        have f_600 : R 1 32 (l2 + 1) := R_add f_585 f_601 1 32 (by decide)
        have g_602 := gap_inc (N := 32) f_585 (by decide)
        exact ih x4 (l2 + 1)  (R_w f_599 (by decide)) (R_w f_600 (by decide)) (by omega)
set_option maxRecDepth 100000 in
set_option maxHeartbeats 4000000 in
theorem s_X8_possible {g : gT} {h : mh_T} {P : Int32 → mh_T → Prop}  (hG : GI h)  (hp : ∀ r : Int32, P r h) : MCi g yX8_possible uX8_possible [.ref 3] h P := by
  have ok : Ok [] h h := Ok_rf hG
  have L0 := s_X8_possible_L (g := g) hG hp 33
  refine e_X8_possible   ?_
  have f_603 : R 0 0 0 := ⟨by decide, by decide⟩
  have f_604 : R 0 0 0 := ⟨by decide, by decide⟩
  have f_605 : R 0 0 0 := ⟨by decide, by decide⟩
  have g_606 := gap_le (N := 32) f_605 (m := 32) (by decide)
  exact L0 0 0  (R_w f_603 (by decide)) (R_w f_604 (by decide)) (by omega)
set_option maxRecDepth 100000 in
set_option maxHeartbeats 4000000 in
theorem s_X8_extending_L {g : gT} {h0 : mh_T} {P : Int32 → mh_T → Prop} (hG0 : GI h0) (hp : ∀ r : Int32, P r h0) : ∀ n : Nat, (∀ (l1 : Int32) (l2 : Int32), R (-2147483648) 2147483647 l1 → R 0 64 l2 → 10 * gap 64 l2 + 9 < n → ME g uX8_extending 4 [.ref 3, .int l1, .int l2, .retAddr 0, .retAddr 0] [] h0 (qI P)) ∧ (∀ (l1 : Int32) (l2 : Int32) (l3 : Int32) (l4 : Int32), R (-2147483648) 2147483647 l1 → R 0 63 l2 → R 0 255 l3 → R 0 8 l4 → 1 * gap 8 l4 + 10 * gap 64 l2 + 0 < n → ME g uX8_extending 21 [.ref 3, .int l1, .int l2, .int l3, .int l4] [] h0 (qI P)) := by
  intro n
  induction n with
  | zero =>
    exact ⟨(fun _ _ _ _ hm => absurd hm (Nat.not_lt_zero _)), (fun _ _ _ _ _ _ _ _ hm => absurd hm (Nat.not_lt_zero _))⟩
  | succ n ih =>
    refine ⟨?_, ?_⟩
    · intro l1 l2  fl1 fl2     hm
      have ok : Ok [] h0 h0 := Ok_rf hG0
      refine r_X8_extending_4 l1 l2  ?_
      refine s_X8_hiddenAnswers ok.1 (fun r2 f_2025 => ?_)
      refine ⟨fun c_2026 => ?_, fun c_2026 => ?_⟩
      · have f_2027 : R 1 64 l2 := rf_le_r f_2025 fl2 c_2026 1 (by decide)
        exact hp _ 
      · have f_2028 : R 0 63 l2 := rf_lt_l fl2 f_2025 (nle c_2026) 63 (by decide)
        refine s_X8_missed l2 ok.1 (fun r5 f_2029 => ?_)
        have f_2030 : R 0 0 0 := ⟨by decide, by decide⟩
        have f_2031 : R 0 0 0 := ⟨by decide, by decide⟩
        have g_2032 := gap_le (N := 8) f_2031 (m := 8) (by decide)
        exact (ih.2) l1 l2 r5 0  (R_w fl1 (by decide)) (R_w f_2028 (by decide)) (R_w f_2029 (by decide)) (R_w f_2030 (by decide)) (by omega)
    · intro l1 l2 l3 l4  fl1 fl2 fl3 fl4     hm
      have ok : Ok [] h0 h0 := Ok_rf hG0
      refine r_X8_extending_21 l1 l2 l3 l4  ?_
      refine ⟨fun c_2033 => ?_, fun c_2033 => ?_⟩
      · have f_2034 : R 0 8 (mI h0 3 2) := GI_rd ok.1 3 _ (by decide)
        have f_2036 : R 1 1 1 := ⟨by decide, by decide⟩
        have f_2035 : R 1 64 (l2 + 1) := R_add fl2 f_2036 1 64 (by decide)
        have g_2037 := gap_inc (N := 64) fl2 (by decide)
        exact (ih.1) l1 (l2 + 1)  (R_w fl1 (by decide)) (R_w f_2035 (by decide)) (by omega)
      · have f_2038 : R 0 8 (mI h0 3 2) := GI_rd ok.1 3 _ (by decide)
        have f_2039 : R 0 7 l4 := rf_lt_l fl4 f_2038 (nle c_2033) 7 (by decide)
        have f_2040 : R 1 8 (mI h0 3 2) := rf_lt_r fl4 f_2038 (nle c_2033) 1 (by decide)
        refine ⟨fun c_2041 => ?_, fun c_2041 => ?_⟩
        · have f_2044 : R 1 128 (1 <<< (l4 &&& 31)) := R_shl f_2039 1 128 0 7 (by decide)
          have f_2045 : R (-1) (-1) (-1) := ⟨by decide, by decide⟩
          have f_2043 : R (-2147483648) 2147483647 ((1 <<< (l4 &&& 31)) ^^^ (-1)) := R_full _
          have f_2042 : R 0 255 (l3 &&& ((1 <<< (l4 &&& 31)) ^^^ (-1))) := R_andl fl3 (by decide)
          have f_2046 : R 0 0 0 := ⟨by decide, by decide⟩
          have f_2047 : R 1 255 (l3 &&& ((1 <<< (l4 &&& 31)) ^^^ (-1))) := rf_ne_lo f_2042 c_2041 (by decide) 1 rfl
          have f_2049 : R 1 1 1 := ⟨by decide, by decide⟩
          have f_2048 : R 1 8 (l4 + 1) := R_add f_2039 f_2049 1 8 (by decide)
          have g_2050 := gap_inc (N := 8) f_2039 (by decide)
          exact (ih.2) l1 l2 l3 (l4 + 1)  (R_w fl1 (by decide)) (R_w fl2 (by decide)) (R_w fl3 (by decide)) (R_w f_2048 (by decide)) (by omega)
        · have f_2053 : R 1 128 (1 <<< (l4 &&& 31)) := R_shl f_2039 1 128 0 7 (by decide)
          have f_2054 : R (-1) (-1) (-1) := ⟨by decide, by decide⟩
          have f_2052 : R (-2147483648) 2147483647 ((1 <<< (l4 &&& 31)) ^^^ (-1)) := R_full _
          have f_2051 : R 0 255 (l3 &&& ((1 <<< (l4 &&& 31)) ^^^ (-1))) := R_andl fl3 (by decide)
          have f_2055 : R 0 0 0 := ⟨by decide, by decide⟩
          have f_2056 : R 0 0 (l3 &&& ((1 <<< (l4 &&& 31)) ^^^ (-1))) := rf_eq f_2055 c_2041
          refine s_X8_cellOf l4 l2 ok.1 (R_w f_2039 (by decide)) (fun r4 f_2057 => ?_)
          intro x5 ex5
          have f_2059 : R (-2147483648) 2147483647 (1 <<< (r4 &&& 31)) := R_full _
          have f_2058 : R (-2147483648) 2147483647 (l1 ||| (1 <<< (r4 &&& 31))) := R_full _
          have f_2060 : R (-2147483648) 2147483647 x5 := rf_eq f_2058 ex5
          have f_2062 : R 1 1 1 := ⟨by decide, by decide⟩
          have f_2061 : R 1 8 (l4 + 1) := R_add f_2039 f_2062 1 8 (by decide)
          have g_2063 := gap_inc (N := 8) f_2039 (by decide)
          exact (ih.2) x5 l2 l3 (l4 + 1)  (R_w f_2060 (by decide)) (R_w fl2 (by decide)) (R_w fl3 (by decide)) (R_w f_2061 (by decide)) (by omega)
set_option maxRecDepth 100000 in
set_option maxHeartbeats 4000000 in
theorem s_X8_extending {g : gT} {h : mh_T} {P : Int32 → mh_T → Prop}  (hG : GI h)  (hp : ∀ r : Int32, P r h) : MCi g yX8_extending uX8_extending [.ref 3] h P := by
  have ok : Ok [] h h := Ok_rf hG
  have L0 := s_X8_extending_L (g := g) hG hp 650
  refine e_X8_extending   ?_
  have f_2064 : R 0 0 0 := ⟨by decide, by decide⟩
  have f_2065 : R 0 0 0 := ⟨by decide, by decide⟩
  have f_2066 : R 0 0 0 := ⟨by decide, by decide⟩
  have g_2067 := gap_le (N := 64) f_2066 (m := 64) (by decide)
  exact (L0.1) 0 0  (R_w f_2064 (by decide)) (R_w f_2065 (by decide)) (by omega)
set_option maxRecDepth 100000 in
set_option maxHeartbeats 4000000 in
theorem s_X8_onesOf {g : gT} {h : mh_T} {P : Int32 → mh_T → Prop} (l1 : Int32) (l2 : Int32) (hG : GI h) (fl1 : R 0 7 l1) (hp : ∀ r : Int32, P r h) : MCi g yX8_onesOf uX8_onesOf [.ref 3, .int l1, .int l2] h P := by
  have ok : Ok [] h h := Ok_rf hG
  refine e_X8_onesOf l1 l2  ?_
  intro x1 ex1
  have f_41 : R 4 4 4 := ⟨by decide, by decide⟩
  have f_40 : R 0 28 (4 * l1) := R_mul f_41 fl1 0 28 (by decide)
  have f_42 : R 0 28 x1 := rf_eq f_40 ex1
  refine ⟨vin fl1 (by decide), ?_⟩
  refine ⟨fun c_43 => ?_, fun c_43 => ?_⟩
  · have f_44 : R (-2) 5 (mI h 25 l1.toNatClampNeg) := GI_rd ok.1 25 _ rfl
    have f_45 : R 0 0 0 := ⟨by decide, by decide⟩
    have f_46 : R 0 5 (mI h 25 l1.toNatClampNeg) := rf_le_r f_45 f_44 c_43 0 (by decide)
    refine ⟨vin fl1 (by decide), ?_⟩
    refine ⟨fun c_47 => ?_, fun c_47 => ?_⟩
    · have f_48 : R 0 5 (mI h 24 l1.toNatClampNeg) := GI_rd ok.1 24 _ rfl
      refine ⟨vin fl1 (by decide), ?_⟩
      refine ⟨fun c_49 => ?_, fun c_49 => ?_⟩
      · have f_50 : R (-1) (-1) (-1) := ⟨by decide, by decide⟩
        exact hp _ 
      · have f_51 : R 0 5 l2 := rf_eq' f_46 c_49
        have f_53 : R 1 1 1 := ⟨by decide, by decide⟩
        have f_52 : R 1 29 (x1 + 1) := R_add f_42 f_53 1 29 (by decide)
        refine ⟨vin f_52 (by decide), ?_⟩
        have f_55 : R 3 3 3 := ⟨by decide, by decide⟩
        have f_54 : R 3 31 (x1 + 3) := R_add f_42 f_55 3 31 (by decide)
        refine ⟨vin f_54 (by decide), ?_⟩
        have f_57 : R (-2147483648) 2147483647 (mI h 26 (x1 + 1).toNatClampNeg) := R_full _
        have f_58 : R (-2147483648) 2147483647 (mI h 26 (x1 + 3).toNatClampNeg) := R_full _
        have f_56 : R (-2147483648) 2147483647 ((mI h 26 (x1 + 1).toNatClampNeg) + (mI h 26 (x1 + 3).toNatClampNeg)) := R_full _
        exact hp _ 
    · have f_59 : R 0 5 (mI h 24 l1.toNatClampNeg) := GI_rd ok.1 24 _ rfl
      have f_60 : R 0 5 l2 := rf_eq' f_59 c_47
      have f_62 : R 2 2 2 := ⟨by decide, by decide⟩
      have f_61 : R 2 30 (x1 + 2) := R_add f_42 f_62 2 30 (by decide)
      refine ⟨vin f_61 (by decide), ?_⟩
      have f_64 : R 3 3 3 := ⟨by decide, by decide⟩
      have f_63 : R 3 31 (x1 + 3) := R_add f_42 f_64 3 31 (by decide)
      refine ⟨vin f_63 (by decide), ?_⟩
      have f_66 : R (-2147483648) 2147483647 (mI h 26 (x1 + 2).toNatClampNeg) := R_full _
      have f_67 : R (-2147483648) 2147483647 (mI h 26 (x1 + 3).toNatClampNeg) := R_full _
      have f_65 : R (-2147483648) 2147483647 ((mI h 26 (x1 + 2).toNatClampNeg) + (mI h 26 (x1 + 3).toNatClampNeg)) := R_full _
      exact hp _ 
  · have f_68 : R (-2) 5 (mI h 25 l1.toNatClampNeg) := GI_rd ok.1 25 _ rfl
    have f_69 : R 0 0 0 := ⟨by decide, by decide⟩
    have f_70 : R (-2) (-1) (mI h 25 l1.toNatClampNeg) := rf_lt_l f_68 f_69 (nle c_43) (-1) (by decide)
    refine ⟨vin fl1 (by decide), ?_⟩
    refine ⟨fun c_71 => ?_, fun c_71 => ?_⟩
    · have f_72 : R 0 5 (mI h 24 l1.toNatClampNeg) := GI_rd ok.1 24 _ rfl
      have f_73 : R (-1) (-1) (-1) := ⟨by decide, by decide⟩
      exact hp _ 
    · have f_74 : R 0 5 (mI h 24 l1.toNatClampNeg) := GI_rd ok.1 24 _ rfl
      have f_75 : R 0 5 l2 := rf_eq' f_74 c_71
      have f_77 : R 1 1 1 := ⟨by decide, by decide⟩
      have f_76 : R 1 29 (x1 + 1) := R_add f_42 f_77 1 29 (by decide)
      refine ⟨vin f_76 (by decide), ?_⟩
      have f_78 : R (-2147483648) 2147483647 (mI h 26 (x1 + 1).toNatClampNeg) := R_full _
      exact hp _ 
set_option maxRecDepth 100000 in
set_option maxHeartbeats 4000000 in
theorem s_X8_firstDisturbed_L {g : gT} {h0 : mh_T} {P : Int32 → mh_T → Prop} (hG0 : GI h0) (hp : ∀ r : Int32, R (-2) 5 r → P r h0) : ∀ n : Nat, (∀ (l1 : Int32), R 0 6 l1 → 10 * gap 6 l1 + 9 < n → ME g uX8_firstDisturbed 2 [.ref 3, .int l1, .retAddr 0, .retAddr 0, .retAddr 0] [] h0 (qI P)) ∧ (∀ (l1 : Int32) (l2 : Int32) (l3 : Int32), R 0 5 l1 → R (-1) 2147483647 l2 → R 0 8 l3 → 1 * gap 8 l3 + 10 * gap 6 l1 + 0 < n → ME g uX8_firstDisturbed 14 [.ref 3, .int l1, .int l2, .int l3, .retAddr 0] [] h0 (qI P)) := by
  intro n
  induction n with
  | zero =>
    exact ⟨(fun _ _ hm => absurd hm (Nat.not_lt_zero _)), (fun _ _ _ _ _ _ hm => absurd hm (Nat.not_lt_zero _))⟩
  | succ n ih =>
    refine ⟨?_, ?_⟩
    · intro l1  fl1     hm
      have ok : Ok [] h0 h0 := Ok_rf hG0
      refine r_X8_firstDisturbed_2 l1  ?_
      refine ⟨fun c_567 => ?_, fun c_567 => ?_⟩
      · have f_568 : R 0 6 (mI h0 3 1) := GI_rd ok.1 3 _ (by decide)
        have f_569 : R (-2) (-2) (-2) := ⟨by decide, by decide⟩
        exact hp _ (R_w f_569 (by decide))
      · have f_570 : R 0 6 (mI h0 3 1) := GI_rd ok.1 3 _ (by decide)
        have f_571 : R 0 5 l1 := rf_lt_l fl1 f_570 (nle c_567) 5 (by decide)
        have f_572 : R 1 6 (mI h0 3 1) := rf_lt_r fl1 f_570 (nle c_567) 1 (by decide)
        have f_573 : R (-1) (-1) (-1) := ⟨by decide, by decide⟩
        have f_574 : R 0 0 0 := ⟨by decide, by decide⟩
        have f_575 : R 0 0 0 := ⟨by decide, by decide⟩
        have g_576 := gap_le (N := 8) f_575 (m := 8) (by decide)
        exact (ih.2) l1 (-1) 0  (R_w f_571 (by decide)) (R_w f_573 (by decide)) (R_w f_574 (by decide)) (by omega)
    · intro l1 l2 l3  fl1 fl2 fl3     hm
      have ok : Ok [] h0 h0 := Ok_rf hG0
      refine r_X8_firstDisturbed_14 l1 l2 l3  ?_
      refine ⟨fun c_577 => ?_, fun c_577 => ?_⟩
      · have f_578 : R 0 8 (mI h0 3 2) := GI_rd ok.1 3 _ (by decide)
        have f_580 : R 1 1 1 := ⟨by decide, by decide⟩
        have f_579 : R 1 6 (l1 + 1) := R_add fl1 f_580 1 6 (by decide)
        have g_581 := gap_inc (N := 6) fl1 (by decide)
        exact (ih.1) (l1 + 1)  (R_w f_579 (by decide)) (by omega)
      · have f_582 : R 0 8 (mI h0 3 2) := GI_rd ok.1 3 _ (by decide)
        have f_583 : R 0 7 l3 := rf_lt_l fl3 f_582 (nle c_577) 7 (by decide)
        have f_584 : R 1 8 (mI h0 3 2) := rf_lt_r fl3 f_582 (nle c_577) 1 (by decide)
        refine s_X8_onesOf l3 l1 ok.1 (R_w f_583 (by decide)) (fun r3 => ?_)
        refine ⟨fun c_585 => ?_, fun c_585 => ?_⟩
        · have f_586 : R (-2147483648) 2147483647 r3 := R_full _
          have f_587 : R 0 0 0 := ⟨by decide, by decide⟩
          have f_588 : R (-2147483648) (-1) r3 := rf_lt_l f_586 f_587 c_585 (-1) (by decide)
          refine ⟨fun c_589 => ?_, fun c_589 => ?_⟩
          · have f_590 : R 0 0 0 := ⟨by decide, by decide⟩
            have f_592 : R 1 1 1 := ⟨by decide, by decide⟩
            have f_591 : R 1 8 (l3 + 1) := R_add f_583 f_592 1 8 (by decide)
            have g_593 := gap_inc (N := 8) f_583 (by decide)
            exact (ih.2) l1 l2 (l3 + 1)  (R_w fl1 (by decide)) (R_w fl2 (by decide)) (R_w f_591 (by decide)) (by omega)
          · have f_594 : R 0 0 0 := ⟨by decide, by decide⟩
            have f_595 := rf_le_l f_594 f_588 (nlt c_589) (-1) (by decide)
            exact (R_abs f_595 (by decide)).elim
        · have f_596 : R (-2147483648) 2147483647 r3 := R_full _
          have f_597 : R 0 0 0 := ⟨by decide, by decide⟩
          have f_598 : R 0 2147483647 r3 := rf_le_r f_597 f_596 (nlt c_585) 0 (by decide)
          refine ⟨fun c_599 => ?_, fun c_599 => ?_⟩
          · have f_600 : R 0 0 0 := ⟨by decide, by decide⟩
            have f_601 : R (-1) (-1) l2 := rf_lt_l fl2 f_600 c_599 (-1) (by decide)
            refine ⟨fun c_602 => ?_, fun c_602 => ?_⟩
            · have f_603 : R 0 0 0 := ⟨by decide, by decide⟩
              have f_604 : R 0 (-1) r3 := rf_lt_l f_598 f_603 c_602 (-1) (by decide)
              exact (R_abs f_604 (by decide)).elim
            · have f_605 : R 0 0 0 := ⟨by decide, by decide⟩
              have f_607 : R 1 1 1 := ⟨by decide, by decide⟩
              have f_606 : R 1 8 (l3 + 1) := R_add f_583 f_607 1 8 (by decide)
              have g_608 := gap_inc (N := 8) f_583 (by decide)
              exact (ih.2) l1 r3 (l3 + 1)  (R_w fl1 (by decide)) (R_w f_598 (by decide)) (R_w f_606 (by decide)) (by omega)
          · have f_609 : R 0 0 0 := ⟨by decide, by decide⟩
            have f_610 : R 0 2147483647 l2 := rf_le_r f_609 fl2 (nlt c_599) 0 (by decide)
            refine ⟨fun c_611 => ?_, fun c_611 => ?_⟩
            · refine ⟨fun c_612 => ?_, fun c_612 => ?_⟩
              · have f_613 : R 0 0 0 := ⟨by decide, by decide⟩
                have f_614 : R 0 (-1) r3 := rf_lt_l f_598 f_613 c_612 (-1) (by decide)
                exact (R_abs f_614 (by decide)).elim
              · have f_615 : R 0 0 0 := ⟨by decide, by decide⟩
                have f_617 : R 1 1 1 := ⟨by decide, by decide⟩
                have f_616 : R 1 8 (l3 + 1) := R_add f_583 f_617 1 8 (by decide)
                have g_618 := gap_inc (N := 8) f_583 (by decide)
                exact (ih.2) l1 r3 (l3 + 1)  (R_w fl1 (by decide)) (R_w f_598 (by decide)) (R_w f_616 (by decide)) (by omega)
            · exact hp _ (R_w fl1 (by decide))
set_option maxRecDepth 100000 in
set_option maxHeartbeats 4000000 in
theorem s_X8_firstDisturbed {g : gT} {h : mh_T} {P : Int32 → mh_T → Prop}  (hG : GI h)  (hp : ∀ r : Int32, R (-2) 5 r → P r h) : MCi g yX8_firstDisturbed uX8_firstDisturbed [.ref 3] h P := by
  have ok : Ok [] h h := Ok_rf hG
  have L0 := s_X8_firstDisturbed_L (g := g) hG hp 70
  refine e_X8_firstDisturbed   ?_
  have f_619 : R 0 0 0 := ⟨by decide, by decide⟩
  have f_620 : R 0 0 0 := ⟨by decide, by decide⟩
  have g_621 := gap_le (N := 6) f_620 (m := 6) (by decide)
  exact (L0.1) 0  (R_w f_619 (by decide)) (by omega)
set_option maxRecDepth 100000 in
set_option maxHeartbeats 4000000 in
theorem s_X8_winnings_L {g : gT} {h0 : mh_T} {P : Int32 → mh_T → Prop} (hG0 : GI h0) (hp : ∀ r : Int32, P r h0) : ∀ n : Nat, (∀ (l1 : Int32) (l2 : Int32), R (-2147483648) 2147483647 l1 → R 0 32 l2 → 1 * gap 32 l2 + 0 < n → ME g uX8_winnings 4 [.ref 3, .int l1, .int l2] [] h0 (qI P)) := by
  intro n
  induction n with
  | zero =>
    exact (fun _ _ _ _ hm => absurd hm (Nat.not_lt_zero _))
  | succ n ih =>
    intro l1 l2  fl1 fl2     hm
    have ok : Ok [] h0 h0 := Ok_rf hG0
    refine r_X8_winnings_4 l1 l2  ?_
    refine ⟨fun c_417 => ?_, fun c_417 => ?_⟩
    · have f_419 : R 4 4 4 := ⟨by decide, by decide⟩
      have f_420 : R 0 8 (mI h0 3 2) := GI_rd ok.1 3 _ (by decide)
      have f_418 : R 0 32 (4 * (mI h0 3 2)) := R_mul f_419 f_420 0 32 (by decide)
      exact hp _ 
    · have f_422 : R 4 4 4 := ⟨by decide, by decide⟩
      have f_423 : R 0 8 (mI h0 3 2) := GI_rd ok.1 3 _ (by decide)
      have f_421 : R 0 32 (4 * (mI h0 3 2)) := R_mul f_422 f_423 0 32 (by decide)
      have f_424 : R 0 31 l2 := rf_lt_l fl2 f_421 (nle c_417) 31 (by decide)
      have f_425 : R 1 32 (4 * (mI h0 3 2)) := rf_lt_r fl2 f_421 (nle c_417) 1 (by decide)
      refine ⟨vin f_424 (by decide), ?_⟩
      refine ⟨vin f_424 (by decide), ?_⟩
      intro x4 ex4
      have f_428 : R (-2147483648) 2147483647 (mI h0 27 l2.toNatClampNeg) := R_full _
      have f_429 : R (-2147483648) 2147483647 (mI h0 26 l2.toNatClampNeg) := R_full _
      have f_427 : R (-2147483648) 2147483647 ((mI h0 27 l2.toNatClampNeg) * (mI h0 26 l2.toNatClampNeg)) := R_full _
      have f_426 : R (-2147483648) 2147483647 (l1 + ((mI h0 27 l2.toNatClampNeg) * (mI h0 26 l2.toNatClampNeg))) := R_full _
      have f_430 : R (-2147483648) 2147483647 x4 := rf_eq f_426 ex4
      have f_432 : R 1 1 1 := ⟨by decide, by decide⟩
      have f_431 : R 1 32 (l2 + 1) := R_add f_424 f_432 1 32 (by decide)
      have g_433 := gap_inc (N := 32) f_424 (by decide)
      exact ih x4 (l2 + 1)  (R_w f_430 (by decide)) (R_w f_431 (by decide)) (by omega)
set_option maxRecDepth 100000 in
set_option maxHeartbeats 4000000 in
theorem s_X8_winnings {g : gT} {h : mh_T} {P : Int32 → mh_T → Prop}  (hG : GI h)  (hp : ∀ r : Int32, P r h) : MCi g yX8_winnings uX8_winnings [.ref 3] h P := by
  have ok : Ok [] h h := Ok_rf hG
  have L0 := s_X8_winnings_L (g := g) hG hp 33
  refine e_X8_winnings   ?_
  have f_434 : R 0 0 0 := ⟨by decide, by decide⟩
  have f_435 : R 0 0 0 := ⟨by decide, by decide⟩
  have f_436 : R 0 0 0 := ⟨by decide, by decide⟩
  have g_437 := gap_le (N := 32) f_436 (m := 32) (by decide)
  exact L0 0 0  (R_w f_434 (by decide)) (R_w f_435 (by decide)) (by omega)
set_option maxRecDepth 100000 in
set_option maxHeartbeats 4000000 in
theorem s_X8_pay_L {g : gT} {h0 : mh_T} {P : Int32 → mh_T → Prop} (hG0 : GI h0) (hp : ∀ r : Int32, P r h0) : ∀ n : Nat, (∀ (l1 : Int32) (l2 : Int32) (l3 : Int32), R (-2147483648) 2147483647 l1 → R (-2147483648) 2147483647 l2 → R 0 8 l3 → 1 * gap 8 l3 + 0 < n → ME g uX8_pay 4 [.ref 3, .int l1, .int l2, .int l3] [] h0 (qI P)) := by
  intro n
  induction n with
  | zero =>
    exact (fun _ _ _ _ _ _ hm => absurd hm (Nat.not_lt_zero _))
  | succ n ih =>
    intro l1 l2 l3  fl1 fl2 fl3     hm
    have ok : Ok [] h0 h0 := Ok_rf hG0
    refine r_X8_pay_4 l1 l2 l3  ?_
    refine ⟨fun c_120 => ?_, fun c_120 => ?_⟩
    · have f_121 : R 0 8 (mI h0 3 2) := GI_rd ok.1 3 _ (by decide)
      exact hp _ 
    · have f_122 : R 0 8 (mI h0 3 2) := GI_rd ok.1 3 _ (by decide)
      have f_123 : R 0 7 l3 := rf_lt_l fl3 f_122 (nle c_120) 7 (by decide)
      have f_124 : R 1 8 (mI h0 3 2) := rf_lt_r fl3 f_122 (nle c_120) 1 (by decide)
      refine s_X8_cellOf l3 l1 ok.1 (R_w f_123 (by decide)) (fun r3 f_125 => ?_)
      refine ⟨vin f_125 (by decide), ?_⟩
      intro x5 ex5
      have f_127 : R (-2147483648) 2147483647 (mI h0 27 r3.toNatClampNeg) := R_full _
      have f_126 : R (-2147483648) 2147483647 (l2 + (mI h0 27 r3.toNatClampNeg)) := R_full _
      have f_128 : R (-2147483648) 2147483647 x5 := rf_eq f_126 ex5
      have f_130 : R 1 1 1 := ⟨by decide, by decide⟩
      have f_129 : R 1 8 (l3 + 1) := R_add f_123 f_130 1 8 (by decide)
      have g_131 := gap_inc (N := 8) f_123 (by decide)
      exact ih l1 x5 (l3 + 1)  (R_w fl1 (by decide)) (R_w f_128 (by decide)) (R_w f_129 (by decide)) (by omega)
set_option maxRecDepth 100000 in
set_option maxHeartbeats 4000000 in
theorem s_X8_pay {g : gT} {h : mh_T} {P : Int32 → mh_T → Prop} (l1 : Int32) (hG : GI h)  (hp : ∀ r : Int32, P r h) : MCi g yX8_pay uX8_pay [.ref 3, .int l1] h P := by
  have ok : Ok [] h h := Ok_rf hG
  have L0 := s_X8_pay_L (g := g) hG hp 9
  refine e_X8_pay l1  ?_
  have f_132 : R 0 0 0 := ⟨by decide, by decide⟩
  have f_133 : R 0 0 0 := ⟨by decide, by decide⟩
  have f_134 : R 0 0 0 := ⟨by decide, by decide⟩
  have g_135 := gap_le (N := 8) f_134 (m := 8) (by decide)
  exact L0 l1 0 0  (R_w (R_full l1) (by decide)) (R_w f_132 (by decide)) (R_w f_133 (by decide)) (by omega)
set_option maxRecDepth 100000 in
set_option maxHeartbeats 4000000 in
theorem s_X8_leastPaid_L {g : gT} {h0 : mh_T} {P : Int32 → mh_T → Prop} (hG0 : GI h0) (hp : ∀ r : Int32, R 0 63 r → P r h0) : ∀ n : Nat, (∀ (l1 : Int32) (l2 : Int32), R 0 63 l1 → R 1 64 l2 → 1 * gap 64 l2 + 0 < n → ME g uX8_leastPaid 4 [.ref 3, .int l1, .int l2] [] h0 (qI P)) := by
  intro n
  induction n with
  | zero =>
    exact (fun _ _ _ _ hm => absurd hm (Nat.not_lt_zero _))
  | succ n ih =>
    intro l1 l2  fl1 fl2     hm
    have ok : Ok [] h0 h0 := Ok_rf hG0
    refine r_X8_leastPaid_4 l1 l2  ?_
    refine s_X8_hiddenAnswers ok.1 (fun r2 f_479 => ?_)
    refine ⟨fun c_480 => ?_, fun c_480 => ?_⟩
    · exact hp _ (R_w fl1 (by decide))
    · have f_481 : R 1 63 l2 := rf_lt_l fl2 f_479 (nle c_480) 63 (by decide)
      have f_482 : R 2 64 r2 := rf_lt_r fl2 f_479 (nle c_480) 2 (by decide)
      refine s_X8_pay l2 ok.1 (fun r5 => ?_)
      refine s_X8_pay l1 ok.1 (fun r7 => ?_)
      refine ⟨fun c_483 => ?_, fun c_483 => ?_⟩
      · have f_484 : R (-2147483648) 2147483647 r5 := R_full _
        have f_485 : R (-2147483648) 2147483647 r7 := R_full _
        have f_487 : R 1 1 1 := ⟨by decide, by decide⟩
        have f_486 : R 2 64 (l2 + 1) := R_add f_481 f_487 2 64 (by decide)
        have g_488 := gap_inc (N := 64) f_481 (by decide)
        exact ih l1 (l2 + 1)  (R_w fl1 (by decide)) (R_w f_486 (by decide)) (by omega)
      · have f_489 : R (-2147483648) 2147483647 r5 := R_full _
        have f_490 : R (-2147483648) 2147483647 r7 := R_full _
        have f_491 : R (-2147483648) 2147483646 r5 := rf_lt_l f_489 f_490 (nle c_483) 2147483646 (by decide)
        have f_492 : R (-2147483647) 2147483647 r7 := rf_lt_r f_489 f_490 (nle c_483) (-2147483647) (by decide)
        have f_494 : R 1 1 1 := ⟨by decide, by decide⟩
        have f_493 : R 2 64 (l2 + 1) := R_add f_481 f_494 2 64 (by decide)
        have g_495 := gap_inc (N := 64) f_481 (by decide)
        exact ih l2 (l2 + 1)  (R_w f_481 (by decide)) (R_w f_493 (by decide)) (by omega)
set_option maxRecDepth 100000 in
set_option maxHeartbeats 4000000 in
theorem s_X8_leastPaid {g : gT} {h : mh_T} {P : Int32 → mh_T → Prop}  (hG : GI h)  (hp : ∀ r : Int32, R 0 63 r → P r h) : MCi g yX8_leastPaid uX8_leastPaid [.ref 3] h P := by
  have ok : Ok [] h h := Ok_rf hG
  have L0 := s_X8_leastPaid_L (g := g) hG hp 64
  refine e_X8_leastPaid   ?_
  have f_496 : R 0 0 0 := ⟨by decide, by decide⟩
  have f_497 : R 1 1 1 := ⟨by decide, by decide⟩
  have f_498 : R 1 1 1 := ⟨by decide, by decide⟩
  have g_499 := gap_le (N := 64) f_498 (m := 63) (by decide)
  exact L0 0 1  (R_w f_496 (by decide)) (R_w f_497 (by decide)) (by omega)
set_option maxRecDepth 100000 in
set_option maxHeartbeats 4000000 in
theorem s_X8_isLookedAt_L {g : gT} {h0 : mh_T} {P : Int32 → mh_T → Prop} (hG0 : GI h0) (hp : ∀ r : Int32, R 0 1 r → P r h0) : ∀ n : Nat, (∀ (l1 : Int32) (l2 : Int32), R (-2147483648) 2147483647 l1 → R 0 8 l2 → 1 * gap 8 l2 + 0 < n → ME g uX8_isLookedAt 2 [.ref 3, .int l1, .int l2] [] h0 (qI P)) := by
  intro n
  induction n with
  | zero =>
    exact (fun _ _ _ _ hm => absurd hm (Nat.not_lt_zero _))
  | succ n ih =>
    intro l1 l2  fl1 fl2     hm
    have ok : Ok [] h0 h0 := Ok_rf hG0
    refine r_X8_isLookedAt_2 l1 l2  ?_
    refine ⟨fun c_173 => ?_, fun c_173 => ?_⟩
    · have f_174 : R 0 8 (mI h0 3 2) := GI_rd ok.1 3 _ (by decide)
      have f_175 : R 0 0 0 := ⟨by decide, by decide⟩
      exact hp _ (R_w f_175 (by decide))
    · have f_176 : R 0 8 (mI h0 3 2) := GI_rd ok.1 3 _ (by decide)
      have f_177 : R 0 7 l2 := rf_lt_l fl2 f_176 (nle c_173) 7 (by decide)
      have f_178 : R 1 8 (mI h0 3 2) := rf_lt_r fl2 f_176 (nle c_173) 1 (by decide)
      refine ⟨vin f_177 (by decide), ?_⟩
      refine ⟨fun c_179 => ?_, fun c_179 => ?_⟩
      · have f_180 : R 0 5 (mI h0 24 l2.toNatClampNeg) := GI_rd ok.1 24 _ rfl
        have f_181 : R 0 5 l1 := rf_eq' f_180 c_179
        have f_182 : R 1 1 1 := ⟨by decide, by decide⟩
        exact hp _ (R_w f_182 (by decide))
      · have f_183 : R 0 5 (mI h0 24 l2.toNatClampNeg) := GI_rd ok.1 24 _ rfl
        refine ⟨vin f_177 (by decide), ?_⟩
        refine ⟨fun c_184 => ?_, fun c_184 => ?_⟩
        · have f_185 : R (-2) 5 (mI h0 25 l2.toNatClampNeg) := GI_rd ok.1 25 _ rfl
          have f_187 : R 1 1 1 := ⟨by decide, by decide⟩
          have f_186 : R 1 8 (l2 + 1) := R_add f_177 f_187 1 8 (by decide)
          have g_188 := gap_inc (N := 8) f_177 (by decide)
          exact ih l1 (l2 + 1)  (R_w fl1 (by decide)) (R_w f_186 (by decide)) (by omega)
        · have f_189 : R (-2) 5 (mI h0 25 l2.toNatClampNeg) := GI_rd ok.1 25 _ rfl
          have f_190 : R (-2) 5 l1 := rf_eq' f_189 c_184
          have f_191 : R 1 1 1 := ⟨by decide, by decide⟩
          exact hp _ (R_w f_191 (by decide))
set_option maxRecDepth 100000 in
set_option maxHeartbeats 4000000 in
theorem s_X8_isLookedAt {g : gT} {h : mh_T} {P : Int32 → mh_T → Prop} (l1 : Int32) (hG : GI h)  (hp : ∀ r : Int32, R 0 1 r → P r h) : MCi g yX8_isLookedAt uX8_isLookedAt [.ref 3, .int l1] h P := by
  have ok : Ok [] h h := Ok_rf hG
  have L0 := s_X8_isLookedAt_L (g := g) hG hp 9
  refine e_X8_isLookedAt l1  ?_
  have f_192 : R 0 0 0 := ⟨by decide, by decide⟩
  have f_193 : R 0 0 0 := ⟨by decide, by decide⟩
  have g_194 := gap_le (N := 8) f_193 (m := 8) (by decide)
  exact L0 l1 0  (R_w (R_full l1) (by decide)) (R_w f_192 (by decide)) (by omega)
set_option maxRecDepth 100000 in
set_option maxHeartbeats 4000000 in
theorem s_X8_swap {g : gT} {h : mh_T} {P : mh_T → Prop} (l1 : Int32) (l2 : Int32) (hG : GI h) (fl1 : R 0 31 l1) (fl2 : R 0 31 l2) (hp : ∀ h', Ok [26, 27] h h' → P h') : MCv g yX8_swap uX8_swap [.ref 3, .int l1, .int l2] h P := by
  have ok : Ok [26, 27] h h := Ok_rf hG
  refine e_X8_swap l1 l2  ?_
  refine ⟨vin fl1 (by decide), ?_⟩
  intro x2 ex2
  have f_15 : R (-2147483648) 2147483647 (mI h 26 l1.toNatClampNeg) := R_full _
  have f_16 : R (-2147483648) 2147483647 x2 := rf_eq f_15 ex2
  refine ⟨vin fl2 (by decide), ?_⟩
  refine ⟨vin fl1 (by decide), ?_⟩
  refine ⟨vin fl2 (by decide), ?_⟩
  refine ⟨vin fl1 (by decide), ?_⟩
  intro x7 ex7
  have f_19 : R (-2147483648) 2147483647 (mI h 27 l1.toNatClampNeg) := R_full _
  have f_18 : R (-2147483648) 2147483647 (mI (wI h 26 l1.toNatClampNeg (mI h 26 l2.toNatClampNeg)) 27 l1.toNatClampNeg) := (rd_ne f_19 (by decide))
  have f_17 : R (-2147483648) 2147483647 (mI (wI (wI h 26 l1.toNatClampNeg (mI h 26 l2.toNatClampNeg)) 26 l2.toNatClampNeg x2) 27 l1.toNatClampNeg) := (rd_ne f_18 (by decide))
  have f_20 : R (-2147483648) 2147483647 x7 := rf_eq f_17 ex7
  refine ⟨vin fl2 (by decide), ?_⟩
  refine ⟨vin fl1 (by decide), ?_⟩
  refine ⟨vin fl2 (by decide), ?_⟩
  have f_21 : R (-2147483648) 2147483647 (mI h 26 l2.toNatClampNeg) := R_full _
  have ok_22 := Ok_w ok (k := 26) (j := l1.toNatClampNeg) (v := (mI h 26 l2.toNatClampNeg)) (lo := (-2147483648)) (hi := 2147483647) (rgc_26 _) f_21 (by decide) (nt_k (by decide))
  have ok_23 := Ok_w ok_22 (k := 26) (j := l2.toNatClampNeg) (v := x2) (lo := (-2147483648)) (hi := 2147483647) (rgc_26 _) f_16 (by decide) (nt_k (by decide))
  have f_26 : R (-2147483648) 2147483647 (mI h 27 l2.toNatClampNeg) := R_full _
  have f_25 : R (-2147483648) 2147483647 (mI (wI h 26 l1.toNatClampNeg (mI h 26 l2.toNatClampNeg)) 27 l2.toNatClampNeg) := (rd_ne f_26 (by decide))
  have f_24 : R (-2147483648) 2147483647 (mI (wI (wI h 26 l1.toNatClampNeg (mI h 26 l2.toNatClampNeg)) 26 l2.toNatClampNeg x2) 27 l2.toNatClampNeg) := (rd_ne f_25 (by decide))
  have ok_27 := Ok_w ok_23 (k := 27) (j := l1.toNatClampNeg) (v := (mI (wI (wI h 26 l1.toNatClampNeg (mI h 26 l2.toNatClampNeg)) 26 l2.toNatClampNeg x2) 27 l2.toNatClampNeg)) (lo := (-2147483648)) (hi := 2147483647) (rgc_27 _) f_24 (by decide) (nt_k (by decide))
  have ok_28 := Ok_w ok_27 (k := 27) (j := l2.toNatClampNeg) (v := x7) (lo := (-2147483648)) (hi := 2147483647) (rgc_27 _) f_20 (by decide) (nt_k (by decide))
  exact hp _ ok_28
set_option maxRecDepth 100000 in
set_option maxHeartbeats 4000000 in
theorem s_X8_turn_L {g : gT} {h0 : mh_T} {P : mh_T → Prop} (hG0 : GI h0) (hp : ∀ h', Ok [3, 26, 27] h0 h' → P h') : ∀ n : Nat, (∀ (l1 : Int32) (l2 : Int32) (h : mh_T), Ok [3, 26, 27] h0 h → R (-2147483648) 2147483647 l1 → R 0 8 l2 → 1 * gap 8 l2 + 0 < n → ME g uX8_turn 2 [.ref 3, .int l1, .int l2, .retAddr 0] [] h (qV P)) := by
  intro n
  induction n with
  | zero =>
    exact (fun _ _ _ _ _ _ hm => absurd hm (Nat.not_lt_zero _))
  | succ n ih =>
    intro l1 l2 h  ok fl1 fl2     hm
    refine r_X8_turn_2 l1 l2  ?_
    refine ⟨fun c_578 => ?_, fun c_578 => ?_⟩
    · have f_579 : R 0 8 (mI h 3 2) := GI_rd ok.1 3 _ (by decide)
      have f_581 : R (-2147483648) 2147483647 (mI h 3 3) := R_full _
      have f_582 : R 1 1 1 := ⟨by decide, by decide⟩
      have f_580 : R (-2147483648) 2147483647 ((mI h 3 3) + 1) := R_full _
      have ok_583 := Ok_w ok (k := 3) (j := 3) (v := ((mI h 3 3) + 1)) (lo := (-2147483648)) (hi := 2147483647) (by decide) f_580 (by decide) (by decide)
      exact hp _ ok_583
    · have f_584 : R 0 8 (mI h 3 2) := GI_rd ok.1 3 _ (by decide)
      have f_585 : R 0 7 l2 := rf_lt_l fl2 f_584 (nle c_578) 7 (by decide)
      have f_586 : R 1 8 (mI h 3 2) := rf_lt_r fl2 f_584 (nle c_578) 1 (by decide)
      intro x2 ex2
      have f_588 : R 4 4 4 := ⟨by decide, by decide⟩
      have f_587 : R 0 28 (4 * l2) := R_mul f_588 f_585 0 28 (by decide)
      have f_589 : R 0 28 x2 := rf_eq f_587 ex2
      refine ⟨vin f_585 (by decide), ?_⟩
      refine ⟨fun c_590 => ?_, fun c_590 => ?_⟩
      · have f_591 : R (-2) 5 (mI h 25 l2.toNatClampNeg) := GI_rd ok.1 25 _ rfl
        have f_592 : R 0 0 0 := ⟨by decide, by decide⟩
        have f_593 : R 0 5 (mI h 25 l2.toNatClampNeg) := rf_le_r f_592 f_591 c_590 0 (by decide)
        refine ⟨vin f_585 (by decide), ?_⟩
        refine ⟨fun c_594 => ?_, fun c_594 => ?_⟩
        · have f_595 : R 0 5 (mI h 24 l2.toNatClampNeg) := GI_rd ok.1 24 _ rfl
          refine ⟨vin f_585 (by decide), ?_⟩
          refine ⟨fun c_596 => ?_, fun c_596 => ?_⟩
          · have f_598 : R 1 1 1 := ⟨by decide, by decide⟩
            have f_597 : R 1 8 (l2 + 1) := R_add f_585 f_598 1 8 (by decide)
            have g_599 := gap_inc (N := 8) f_585 (by decide)
            exact ih l1 (l2 + 1) h  ok (R_w fl1 (by decide)) (R_w f_597 (by decide)) (by omega)
          · have f_600 : R 0 5 l1 := rf_eq' f_593 c_596
            have f_602 : R 1 1 1 := ⟨by decide, by decide⟩
            have f_601 : R 1 29 (x2 + 1) := R_add f_589 f_602 1 29 (by decide)
            refine s_X8_swap x2 (x2 + 1) ok.1 (R_w f_589 (by decide)) (R_w f_601 (by decide)) (fun h9 ko_603 => ?_)
            have ok_604 := Ok_tr ok ko_603 (by decide)
            have f_606 : R 2 2 2 := ⟨by decide, by decide⟩
            have f_605 : R 2 30 (x2 + 2) := R_add f_589 f_606 2 30 (by decide)
            have f_608 : R 3 3 3 := ⟨by decide, by decide⟩
            have f_607 : R 3 31 (x2 + 3) := R_add f_589 f_608 3 31 (by decide)
            refine s_X8_swap (x2 + 2) (x2 + 3) ok_604.1 (R_w f_605 (by decide)) (R_w f_607 (by decide)) (fun h10 ko_609 => ?_)
            have ok_610 := Ok_tr ok_604 ko_609 (by decide)
            have f_612 : R 1 1 1 := ⟨by decide, by decide⟩
            have f_611 : R 1 8 (l2 + 1) := R_add f_585 f_612 1 8 (by decide)
            have g_613 := gap_inc (N := 8) f_585 (by decide)
            exact ih l1 (l2 + 1) h10  ok_610 (R_w f_600 (by decide)) (R_w f_611 (by decide)) (by omega)
        · have f_614 : R 0 5 (mI h 24 l2.toNatClampNeg) := GI_rd ok.1 24 _ rfl
          have f_615 : R 0 5 l1 := rf_eq' f_614 c_594
          have f_617 : R 2 2 2 := ⟨by decide, by decide⟩
          have f_616 : R 2 30 (x2 + 2) := R_add f_589 f_617 2 30 (by decide)
          refine s_X8_swap x2 (x2 + 2) ok.1 (R_w f_589 (by decide)) (R_w f_616 (by decide)) (fun h11 ko_618 => ?_)
          have ok_619 := Ok_tr ok ko_618 (by decide)
          have f_621 : R 1 1 1 := ⟨by decide, by decide⟩
          have f_620 : R 1 29 (x2 + 1) := R_add f_589 f_621 1 29 (by decide)
          have f_623 : R 3 3 3 := ⟨by decide, by decide⟩
          have f_622 : R 3 31 (x2 + 3) := R_add f_589 f_623 3 31 (by decide)
          refine s_X8_swap (x2 + 1) (x2 + 3) ok_619.1 (R_w f_620 (by decide)) (R_w f_622 (by decide)) (fun h12 ko_624 => ?_)
          have ok_625 := Ok_tr ok_619 ko_624 (by decide)
          have f_627 : R 1 1 1 := ⟨by decide, by decide⟩
          have f_626 : R 1 8 (l2 + 1) := R_add f_585 f_627 1 8 (by decide)
          have g_628 := gap_inc (N := 8) f_585 (by decide)
          exact ih l1 (l2 + 1) h12  ok_625 (R_w f_615 (by decide)) (R_w f_626 (by decide)) (by omega)
      · have f_629 : R (-2) 5 (mI h 25 l2.toNatClampNeg) := GI_rd ok.1 25 _ rfl
        have f_630 : R 0 0 0 := ⟨by decide, by decide⟩
        have f_631 : R (-2) (-1) (mI h 25 l2.toNatClampNeg) := rf_lt_l f_629 f_630 (nle c_590) (-1) (by decide)
        refine ⟨vin f_585 (by decide), ?_⟩
        refine ⟨fun c_632 => ?_, fun c_632 => ?_⟩
        · have f_633 : R 0 5 (mI h 24 l2.toNatClampNeg) := GI_rd ok.1 24 _ rfl
          have f_635 : R 1 1 1 := ⟨by decide, by decide⟩
          have f_634 : R 1 8 (l2 + 1) := R_add f_585 f_635 1 8 (by decide)
          have g_636 := gap_inc (N := 8) f_585 (by decide)
          exact ih l1 (l2 + 1) h  ok (R_w fl1 (by decide)) (R_w f_634 (by decide)) (by omega)
        · have f_637 : R 0 5 (mI h 24 l2.toNatClampNeg) := GI_rd ok.1 24 _ rfl
          have f_638 : R 0 5 l1 := rf_eq' f_637 c_632
          have f_640 : R 1 1 1 := ⟨by decide, by decide⟩
          have f_639 : R 1 29 (x2 + 1) := R_add f_589 f_640 1 29 (by decide)
          refine s_X8_swap x2 (x2 + 1) ok.1 (R_w f_589 (by decide)) (R_w f_639 (by decide)) (fun h15 ko_641 => ?_)
          have ok_642 := Ok_tr ok ko_641 (by decide)
          have f_644 : R 1 1 1 := ⟨by decide, by decide⟩
          have f_643 : R 1 8 (l2 + 1) := R_add f_585 f_644 1 8 (by decide)
          have g_645 := gap_inc (N := 8) f_585 (by decide)
          exact ih l1 (l2 + 1) h15  ok_642 (R_w f_638 (by decide)) (R_w f_643 (by decide)) (by omega)
set_option maxRecDepth 100000 in
set_option maxHeartbeats 4000000 in
theorem s_X8_turn {g : gT} {h : mh_T} {P : mh_T → Prop} (l1 : Int32) (hG : GI h)  (hp : ∀ h', Ok [3, 26, 27] h h' → P h') : MCv g yX8_turn uX8_turn [.ref 3, .int l1] h P := by
  have ok : Ok [3, 26, 27] h h := Ok_rf hG
  have L0 := s_X8_turn_L (g := g) hG hp 9
  refine e_X8_turn l1  ?_
  have f_646 : R 0 0 0 := ⟨by decide, by decide⟩
  have f_647 : R 0 0 0 := ⟨by decide, by decide⟩
  have g_648 := gap_le (N := 8) f_647 (m := 8) (by decide)
  exact L0 l1 0 h  ok (R_w (R_full l1) (by decide)) (R_w f_646 (by decide)) (by omega)
set_option maxRecDepth 100000 in
set_option maxHeartbeats 4000000 in
theorem s_X8_remove_L {g : gT} {h0 : mh_T} {P : mh_T → Prop} (hG0 : GI h0) (hp : ∀ h', Ok [3, 24, 25, 26, 27] h0 h' → mI h' 3 2 = (mI h0 3 2) - 1 → P h') : ∀ n : Nat, (∀ (l1 : Int32) (l2 : Int32) (h : mh_T), Ok [3, 24, 25, 26, 27] h0 h → R 0 7 l1 → R 0 7 l2 → R 1 8 (mI h 3 2) → mI h 3 2 = mI h0 3 2 → 6 * gap 7 l2 + 5 < n → ME g uX8_remove 2 [.ref 3, .int l1, .int l2, .retAddr 0] [] h (qV P)) ∧ (∀ (l1 : Int32) (l2 : Int32) (l3 : Int32) (h : mh_T), Ok [3, 24, 25, 26, 27] h0 h → R 0 7 l1 → R 0 6 l2 → R 0 4 l3 → R 1 8 (mI h 3 2) → mI h 3 2 = mI h0 3 2 → 1 * gap 4 l3 + 6 * gap 7 l2 + 0 < n → ME g uX8_remove 42 [.ref 3, .int l1, .int l2, .int l3] [] h (qV P)) := by
  intro n
  induction n with
  | zero =>
    exact ⟨(fun _ _ _ _ _ _ _ _ hm => absurd hm (Nat.not_lt_zero _)), (fun _ _ _ _ _ _ _ _ _ _ hm => absurd hm (Nat.not_lt_zero _))⟩
  | succ n ih =>
    refine ⟨?_, ?_⟩
    · intro l1 l2 h  ok fl1 fl2 fi0   ke0 hm
      refine r_X8_remove_2 l1 l2  ?_
      refine ⟨fun c_166 => ?_, fun c_166 => ?_⟩
      · have f_168 : R 1 1 1 := ⟨by decide, by decide⟩
        have f_167 : R 0 7 ((mI h 3 2) - 1) := R_sub fi0 f_168 0 7 (by decide)
        have ok_169 := Ok_w ok (k := 3) (j := 2) (v := ((mI h 3 2) - 1)) (lo := 0) (hi := 8) (by decide) (R_w f_167 (by decide)) (by decide) (by decide)
        have f_172 : R (-2147483648) 2147483647 (mI h 3 3) := R_full _
        have f_171 : R (-2147483648) 2147483647 (mI (wI h 3 2 ((mI h 3 2) - 1)) 3 3) := (rd_nj f_172 (by decide))
        have f_173 : R 1 1 1 := ⟨by decide, by decide⟩
        have f_170 : R (-2147483648) 2147483647 ((mI (wI h 3 2 ((mI h 3 2) - 1)) 3 3) + 1) := R_full _
        have ok_174 := Ok_w ok_169 (k := 3) (j := 3) (v := ((mI (wI h 3 2 ((mI h 3 2) - 1)) 3 3) + 1)) (lo := (-2147483648)) (hi := 2147483647) (by decide) f_170 (by decide) (by decide)
        exact hp _ ok_174 (by show (mI h 3 2) - 1 = _; rw [ke0])
      · have f_176 : R 1 1 1 := ⟨by decide, by decide⟩
        have f_175 : R 0 7 ((mI h 3 2) - 1) := R_sub fi0 f_176 0 7 (by decide)
        have f_177 : R 0 6 l2 := rf_lt_l fl2 f_175 (nle c_166) 6 (by decide)
        have f_178 : R 1 7 ((mI h 3 2) - 1) := rf_lt_r fl2 f_175 (nle c_166) 1 (by decide)
        have f_179 : R 2 8 (mI h 3 2) := R_um1 fi0 f_178 2 8 (by decide)
        have f_181 : R 1 1 1 := ⟨by decide, by decide⟩
        have f_180 : R 1 7 (l2 + 1) := R_add f_177 f_181 1 7 (by decide)
        refine ⟨vin f_180 (by decide), ?_⟩
        refine ⟨vin f_177 (by decide), ?_⟩
        refine ⟨vin f_180 (by decide), ?_⟩
        refine ⟨vin f_177 (by decide), ?_⟩
        have f_182 : R 0 0 0 := ⟨by decide, by decide⟩
        have f_183 : R 0 5 (mI h 24 (l2 + 1).toNatClampNeg) := GI_rd ok.1 24 _ rfl
        have ok_184 := Ok_w ok (k := 24) (j := l2.toNatClampNeg) (v := (mI h 24 (l2 + 1).toNatClampNeg)) (lo := 0) (hi := 5) rfl f_183 (by decide) (nt_k (by decide))
        have f_186 : R (-2) 5 (mI h 25 (l2 + 1).toNatClampNeg) := GI_rd ok.1 25 _ rfl
        have f_185 : R (-2) 5 (mI (wI h 24 l2.toNatClampNeg (mI h 24 (l2 + 1).toNatClampNeg)) 25 (l2 + 1).toNatClampNeg) := (rd_ne f_186 (by decide))
        have ok_187 := Ok_w ok_184 (k := 25) (j := l2.toNatClampNeg) (v := (mI (wI h 24 l2.toNatClampNeg (mI h 24 (l2 + 1).toNatClampNeg)) 25 (l2 + 1).toNatClampNeg)) (lo := (-2)) (hi := 5) rfl f_185 (by decide) (nt_k (by decide))
        have f_189 : R 2 8 (mI (wI h 24 l2.toNatClampNeg (mI h 24 (l2 + 1).toNatClampNeg)) 3 2) := (rd_ne f_179 (by decide))
        have f_188 : R 2 8 (mI (wI (wI h 24 l2.toNatClampNeg (mI h 24 (l2 + 1).toNatClampNeg)) 25 l2.toNatClampNeg (mI (wI h 24 l2.toNatClampNeg (mI h 24 (l2 + 1).toNatClampNeg)) 25 (l2 + 1).toNatClampNeg)) 3 2) := (rd_ne f_189 (by decide))
        have f_190 : R 0 0 0 := ⟨by decide, by decide⟩
        have g_191 := gap_le (N := 4) f_190 (m := 4) (by decide)
        exact (ih.2) l1 l2 0 (wI (wI h 24 l2.toNatClampNeg (mI h 24 (l2 + 1).toNatClampNeg)) 25 l2.toNatClampNeg (mI (wI h 24 l2.toNatClampNeg (mI h 24 (l2 + 1).toNatClampNeg)) 25 (l2 + 1).toNatClampNeg))  ok_187 (R_w fl1 (by decide)) (R_w f_177 (by decide)) (R_w f_182 (by decide)) (R_w f_188 (by decide)) ke0 (by omega)
    · intro l1 l2 l3 h  ok fl1 fl2 fl3 fi0   ke0 hm
      refine r_X8_remove_42 l1 l2 l3  ?_
      refine ⟨fun c_192 => ?_, fun c_192 => ?_⟩
      · have f_193 : R 4 4 4 := ⟨by decide, by decide⟩
        have f_194 : R 4 4 l3 := rf_le_r f_193 fl3 c_192 4 (by decide)
        have f_196 : R 1 1 1 := ⟨by decide, by decide⟩
        have f_195 : R 1 7 (l2 + 1) := R_add fl2 f_196 1 7 (by decide)
        have g_197 := gap_inc (N := 7) fl2 (by decide)
        exact (ih.1) l1 (l2 + 1) h  ok (R_w fl1 (by decide)) (R_w f_195 (by decide)) (R_w fi0 (by decide)) ke0 (by omega)
      · have f_198 : R 4 4 4 := ⟨by decide, by decide⟩
        have f_199 : R 0 3 l3 := rf_lt_l fl3 f_198 (nle c_192) 3 (by decide)
        have f_203 : R 4 4 4 := ⟨by decide, by decide⟩
        have f_202 : R 0 24 (4 * l2) := R_mul f_203 fl2 0 24 (by decide)
        have f_204 : R 4 4 4 := ⟨by decide, by decide⟩
        have f_201 : R 4 28 ((4 * l2) + 4) := R_add f_202 f_204 4 28 (by decide)
        have f_200 : R 4 31 (((4 * l2) + 4) + l3) := R_add f_201 f_199 4 31 (by decide)
        refine ⟨vin f_200 (by decide), ?_⟩
        have f_205 : R 0 27 ((4 * l2) + l3) := R_add f_202 f_199 0 27 (by decide)
        refine ⟨vin f_205 (by decide), ?_⟩
        refine ⟨vin f_200 (by decide), ?_⟩
        refine ⟨vin f_205 (by decide), ?_⟩
        have f_207 : R 1 1 1 := ⟨by decide, by decide⟩
        have f_206 : R 1 4 (l3 + 1) := R_add f_199 f_207 1 4 (by decide)
        have f_208 : R (-2147483648) 2147483647 (mI h 26 (((4 * l2) + 4) + l3).toNatClampNeg) := R_full _
        have ok_209 := Ok_w ok (k := 26) (j := ((4 * l2) + l3).toNatClampNeg) (v := (mI h 26 (((4 * l2) + 4) + l3).toNatClampNeg)) (lo := (-2147483648)) (hi := 2147483647) (rgc_26 _) f_208 (by decide) (nt_k (by decide))
        have f_211 : R (-2147483648) 2147483647 (mI h 27 (((4 * l2) + 4) + l3).toNatClampNeg) := R_full _
        have f_210 : R (-2147483648) 2147483647 (mI (wI h 26 ((4 * l2) + l3).toNatClampNeg (mI h 26 (((4 * l2) + 4) + l3).toNatClampNeg)) 27 (((4 * l2) + 4) + l3).toNatClampNeg) := (rd_ne f_211 (by decide))
        have ok_212 := Ok_w ok_209 (k := 27) (j := ((4 * l2) + l3).toNatClampNeg) (v := (mI (wI h 26 ((4 * l2) + l3).toNatClampNeg (mI h 26 (((4 * l2) + 4) + l3).toNatClampNeg)) 27 (((4 * l2) + 4) + l3).toNatClampNeg)) (lo := (-2147483648)) (hi := 2147483647) (rgc_27 _) f_210 (by decide) (nt_k (by decide))
        have f_214 : R 1 8 (mI (wI h 26 ((4 * l2) + l3).toNatClampNeg (mI h 26 (((4 * l2) + 4) + l3).toNatClampNeg)) 3 2) := (rd_ne fi0 (by decide))
        have f_213 : R 1 8 (mI (wI (wI h 26 ((4 * l2) + l3).toNatClampNeg (mI h 26 (((4 * l2) + 4) + l3).toNatClampNeg)) 27 ((4 * l2) + l3).toNatClampNeg (mI (wI h 26 ((4 * l2) + l3).toNatClampNeg (mI h 26 (((4 * l2) + 4) + l3).toNatClampNeg)) 27 (((4 * l2) + 4) + l3).toNatClampNeg)) 3 2) := (rd_ne f_214 (by decide))
        have g_215 := gap_inc (N := 4) f_199 (by decide)
        exact (ih.2) l1 l2 (l3 + 1) (wI (wI h 26 ((4 * l2) + l3).toNatClampNeg (mI h 26 (((4 * l2) + 4) + l3).toNatClampNeg)) 27 ((4 * l2) + l3).toNatClampNeg (mI (wI h 26 ((4 * l2) + l3).toNatClampNeg (mI h 26 (((4 * l2) + 4) + l3).toNatClampNeg)) 27 (((4 * l2) + 4) + l3).toNatClampNeg))  ok_212 (R_w fl1 (by decide)) (R_w fl2 (by decide)) (R_w f_206 (by decide)) (R_w f_213 (by decide)) ke0 (by omega)
set_option maxRecDepth 100000 in
set_option maxHeartbeats 4000000 in
theorem s_X8_remove {g : gT} {h : mh_T} {P : mh_T → Prop} (l1 : Int32) (hG : GI h) (fl1 : R 0 7 l1) (fi0 : R 1 8 (mI h 3 2)) (hp : ∀ h', Ok [3, 24, 25, 26, 27] h h' → mI h' 3 2 = (mI h 3 2) - 1 → P h') : MCv g yX8_remove uX8_remove [.ref 3, .int l1] h P := by
  have ok : Ok [3, 24, 25, 26, 27] h h := Ok_rf hG
  have L0 := s_X8_remove_L (g := g) hG hp 48
  refine e_X8_remove l1  ?_
  have g_216 := gap_le (N := 7) fl1 (m := 7) (by decide)
  exact (L0.1) l1 l1 h  ok (R_w fl1 (by decide)) (R_w fl1 (by decide)) (R_w fi0 (by decide)) rfl (by omega)
set_option maxRecDepth 100000 in
set_option maxHeartbeats 4000000 in
theorem s_X8_putTogether_v0_L {g : gT} {h0 : mh_T} {P : mh_T → Prop} (hG0 : GI h0) (hp : ∀ h', Ok [25, 26, 27] h0 h' → P h') : ∀ n : Nat, (∀ (l1 : Int32) (l2 : Int32) (l3 : Int32) (l4 : Int32) (l5 : Int32) (l6 : Int32) (l7 : Int32) (h : mh_T), Ok [25, 26, 27] h0 h → R 0 7 l1 → R 2 2 l2 → R 1 1 l3 → R 0 28 l4 → R (-2147483648) 2147483647 l5 → R (-2147483648) 2147483647 l6 → R 0 4 l7 → 1 * gap 4 l7 + 0 < n → ME g uX8_putTogether 98 [.ref 3, .int l1, .int l2, .int l3, .int l4, .int l5, .int l6, .int l7] [] h (qV P)) := by
  intro n
  induction n with
  | zero =>
    exact (fun _ _ _ _ _ _ _ _ _ _ _ _ _ _ _ _ hm => absurd hm (Nat.not_lt_zero _))
  | succ n ih =>
    intro l1 l2 l3 l4 l5 l6 l7 h  ok fl1 fl2 fl3 fl4 fl5 fl6 fl7     hm
    refine r_X8_putTogether_98 l1 l2 l3 l4 l5 l6 l7  ?_
    refine ⟨fun c_163 => ?_, fun c_163 => ?_⟩
    · have f_164 : R 4 4 4 := ⟨by decide, by decide⟩
      have f_165 : R 4 4 l7 := rf_le_r f_164 fl7 c_163 4 (by decide)
      exact hp _ ok
    · have f_166 : R 4 4 4 := ⟨by decide, by decide⟩
      have f_167 : R 0 3 l7 := rf_lt_l fl7 f_166 (nle c_163) 3 (by decide)
      have f_168 : R 0 31 (l4 + l7) := R_add fl4 f_167 0 31 (by decide)
      refine ⟨vin f_168 (by decide), ?_⟩
      have f_170 : R 1 1 1 := ⟨by decide, by decide⟩
      have f_169 : R 1 4 (l7 + 1) := R_add f_167 f_170 1 4 (by decide)
      have f_171 : R 0 0 0 := ⟨by decide, by decide⟩
      have ok_172 := Ok_w ok (k := 27) (j := (l4 + l7).toNatClampNeg) (v := 0) (lo := (-2147483648)) (hi := 2147483647) (rgc_27 _) (R_w f_171 (by decide)) (by decide) (nt_k (by decide))
      have g_173 := gap_inc (N := 4) f_167 (by decide)
      exact ih l1 l2 l3 l4 l5 l6 (l7 + 1) (wI h 27 (l4 + l7).toNatClampNeg 0)  ok_172 (R_w fl1 (by decide)) (R_w fl2 (by decide)) (R_w fl3 (by decide)) (R_w fl4 (by decide)) (R_w fl5 (by decide)) (R_w fl6 (by decide)) (R_w f_169 (by decide)) (by omega)
set_option maxRecDepth 100000 in
set_option maxHeartbeats 4000000 in
theorem s_X8_putTogether_v0 {g : gT} {h : mh_T} {P : mh_T → Prop} (l1 : Int32) (l2 : Int32) (l3 : Int32) (hG : GI h) (fl1 : R 0 7 l1) (fl2 : R 2 2 l2) (fl3 : R 1 1 l3) (hp : ∀ h', Ok [25, 26, 27] h h' → P h') : MCv g yX8_putTogether uX8_putTogether [.ref 3, .int l1, .int l2, .int l3] h P := by
  have ok : Ok [25, 26, 27] h h := Ok_rf hG
  have L0 := s_X8_putTogether_v0_L (g := g) hG hp 5
  refine e_X8_putTogether l1 l2 l3  ?_
  intro x1 ex1
  have f_175 : R 4 4 4 := ⟨by decide, by decide⟩
  have f_174 : R 0 28 (4 * l1) := R_mul f_175 fl1 0 28 (by decide)
  have f_176 : R 0 28 x1 := rf_eq f_174 ex1
  refine ⟨vin f_176 (by decide), ?_⟩
  have f_177 : R 2 30 (x1 + l2) := R_add f_176 fl2 2 30 (by decide)
  refine ⟨vin f_177 (by decide), ?_⟩
  intro x4 ex4
  have f_179 : R (-2147483648) 2147483647 (mI h 26 x1.toNatClampNeg) := R_full _
  have f_180 : R (-2147483648) 2147483647 (mI h 26 (x1 + l2).toNatClampNeg) := R_full _
  have f_178 : R (-2147483648) 2147483647 ((mI h 26 x1.toNatClampNeg) + (mI h 26 (x1 + l2).toNatClampNeg)) := R_full _
  have f_181 : R (-2147483648) 2147483647 x4 := rf_eq f_178 ex4
  have f_182 : R 1 29 (x1 + l3) := R_add f_176 fl3 1 29 (by decide)
  refine ⟨vin f_182 (by decide), ?_⟩
  have f_183 : R 3 31 ((x1 + l3) + l2) := R_add f_182 fl2 3 31 (by decide)
  refine ⟨vin f_183 (by decide), ?_⟩
  intro x7 ex7
  have f_185 : R (-2147483648) 2147483647 (mI h 26 (x1 + l3).toNatClampNeg) := R_full _
  have f_186 : R (-2147483648) 2147483647 (mI h 26 ((x1 + l3) + l2).toNatClampNeg) := R_full _
  have f_184 : R (-2147483648) 2147483647 ((mI h 26 (x1 + l3).toNatClampNeg) + (mI h 26 ((x1 + l3) + l2).toNatClampNeg)) := R_full _
  have f_187 : R (-2147483648) 2147483647 x7 := rf_eq f_184 ex7
  refine ⟨vin fl1 (by decide), ?_⟩
  refine ⟨vin f_176 (by decide), ?_⟩
  have f_189 : R 1 1 1 := ⟨by decide, by decide⟩
  have f_188 : R 1 29 (x1 + 1) := R_add f_176 f_189 1 29 (by decide)
  refine ⟨vin f_188 (by decide), ?_⟩
  have f_191 : R 2 2 2 := ⟨by decide, by decide⟩
  have f_190 : R 2 30 (x1 + 2) := R_add f_176 f_191 2 30 (by decide)
  refine ⟨vin f_190 (by decide), ?_⟩
  have f_193 : R 3 3 3 := ⟨by decide, by decide⟩
  have f_192 : R 3 31 (x1 + 3) := R_add f_176 f_193 3 31 (by decide)
  refine ⟨vin f_192 (by decide), ?_⟩
  have f_194 : R 0 0 0 := ⟨by decide, by decide⟩
  have f_195 : R (-2) (-2) (-2) := ⟨by decide, by decide⟩
  have ok_196 := Ok_w ok (k := 25) (j := l1.toNatClampNeg) (v := (-2)) (lo := (-2)) (hi := 5) rfl (R_w f_195 (by decide)) (by decide) (nt_k (by decide))
  have ok_197 := Ok_w ok_196 (k := 26) (j := x1.toNatClampNeg) (v := x4) (lo := (-2147483648)) (hi := 2147483647) (rgc_26 _) f_181 (by decide) (nt_k (by decide))
  have ok_198 := Ok_w ok_197 (k := 26) (j := (x1 + 1).toNatClampNeg) (v := x7) (lo := (-2147483648)) (hi := 2147483647) (rgc_26 _) f_187 (by decide) (nt_k (by decide))
  have f_199 : R 0 0 0 := ⟨by decide, by decide⟩
  have ok_200 := Ok_w ok_198 (k := 26) (j := (x1 + 2).toNatClampNeg) (v := 0) (lo := (-2147483648)) (hi := 2147483647) (rgc_26 _) (R_w f_199 (by decide)) (by decide) (nt_k (by decide))
  have f_201 : R 0 0 0 := ⟨by decide, by decide⟩
  have ok_202 := Ok_w ok_200 (k := 26) (j := (x1 + 3).toNatClampNeg) (v := 0) (lo := (-2147483648)) (hi := 2147483647) (rgc_26 _) (R_w f_201 (by decide)) (by decide) (nt_k (by decide))
  have f_203 : R 0 0 0 := ⟨by decide, by decide⟩
  have g_204 := gap_le (N := 4) f_203 (m := 4) (by decide)
  exact L0 l1 l2 l3 x1 x4 x7 0 (wI (wI (wI (wI (wI h 25 l1.toNatClampNeg (-2)) 26 x1.toNatClampNeg x4) 26 (x1 + 1).toNatClampNeg x7) 26 (x1 + 2).toNatClampNeg 0) 26 (x1 + 3).toNatClampNeg 0)  ok_202 (R_w fl1 (by decide)) (R_w fl2 (by decide)) (R_w fl3 (by decide)) (R_w f_176 (by decide)) (R_w f_181 (by decide)) (R_w f_187 (by decide)) (R_w f_194 (by decide)) (by omega)
set_option maxRecDepth 100000 in
set_option maxHeartbeats 4000000 in
theorem s_X8_putTogether_v1_L {g : gT} {h0 : mh_T} {P : mh_T → Prop} (hG0 : GI h0) (hp : ∀ h', Ok [25, 26, 27] h0 h' → P h') : ∀ n : Nat, (∀ (l1 : Int32) (l2 : Int32) (l3 : Int32) (l4 : Int32) (l5 : Int32) (l6 : Int32) (l7 : Int32) (h : mh_T), Ok [25, 26, 27] h0 h → R 0 7 l1 → R 1 1 l2 → R 2 2 l3 → R 0 28 l4 → R (-2147483648) 2147483647 l5 → R (-2147483648) 2147483647 l6 → R 0 4 l7 → 1 * gap 4 l7 + 0 < n → ME g uX8_putTogether 98 [.ref 3, .int l1, .int l2, .int l3, .int l4, .int l5, .int l6, .int l7] [] h (qV P)) := by
  intro n
  induction n with
  | zero =>
    exact (fun _ _ _ _ _ _ _ _ _ _ _ _ _ _ _ _ hm => absurd hm (Nat.not_lt_zero _))
  | succ n ih =>
    intro l1 l2 l3 l4 l5 l6 l7 h  ok fl1 fl2 fl3 fl4 fl5 fl6 fl7     hm
    refine r_X8_putTogether_98 l1 l2 l3 l4 l5 l6 l7  ?_
    refine ⟨fun c_163 => ?_, fun c_163 => ?_⟩
    · have f_164 : R 4 4 4 := ⟨by decide, by decide⟩
      have f_165 : R 4 4 l7 := rf_le_r f_164 fl7 c_163 4 (by decide)
      exact hp _ ok
    · have f_166 : R 4 4 4 := ⟨by decide, by decide⟩
      have f_167 : R 0 3 l7 := rf_lt_l fl7 f_166 (nle c_163) 3 (by decide)
      have f_168 : R 0 31 (l4 + l7) := R_add fl4 f_167 0 31 (by decide)
      refine ⟨vin f_168 (by decide), ?_⟩
      have f_170 : R 1 1 1 := ⟨by decide, by decide⟩
      have f_169 : R 1 4 (l7 + 1) := R_add f_167 f_170 1 4 (by decide)
      have f_171 : R 0 0 0 := ⟨by decide, by decide⟩
      have ok_172 := Ok_w ok (k := 27) (j := (l4 + l7).toNatClampNeg) (v := 0) (lo := (-2147483648)) (hi := 2147483647) (rgc_27 _) (R_w f_171 (by decide)) (by decide) (nt_k (by decide))
      have g_173 := gap_inc (N := 4) f_167 (by decide)
      exact ih l1 l2 l3 l4 l5 l6 (l7 + 1) (wI h 27 (l4 + l7).toNatClampNeg 0)  ok_172 (R_w fl1 (by decide)) (R_w fl2 (by decide)) (R_w fl3 (by decide)) (R_w fl4 (by decide)) (R_w fl5 (by decide)) (R_w fl6 (by decide)) (R_w f_169 (by decide)) (by omega)
set_option maxRecDepth 100000 in
set_option maxHeartbeats 4000000 in
theorem s_X8_putTogether_v1 {g : gT} {h : mh_T} {P : mh_T → Prop} (l1 : Int32) (l2 : Int32) (l3 : Int32) (hG : GI h) (fl1 : R 0 7 l1) (fl2 : R 1 1 l2) (fl3 : R 2 2 l3) (hp : ∀ h', Ok [25, 26, 27] h h' → P h') : MCv g yX8_putTogether uX8_putTogether [.ref 3, .int l1, .int l2, .int l3] h P := by
  have ok : Ok [25, 26, 27] h h := Ok_rf hG
  have L0 := s_X8_putTogether_v1_L (g := g) hG hp 5
  refine e_X8_putTogether l1 l2 l3  ?_
  intro x1 ex1
  have f_175 : R 4 4 4 := ⟨by decide, by decide⟩
  have f_174 : R 0 28 (4 * l1) := R_mul f_175 fl1 0 28 (by decide)
  have f_176 : R 0 28 x1 := rf_eq f_174 ex1
  refine ⟨vin f_176 (by decide), ?_⟩
  have f_177 : R 1 29 (x1 + l2) := R_add f_176 fl2 1 29 (by decide)
  refine ⟨vin f_177 (by decide), ?_⟩
  intro x4 ex4
  have f_179 : R (-2147483648) 2147483647 (mI h 26 x1.toNatClampNeg) := R_full _
  have f_180 : R (-2147483648) 2147483647 (mI h 26 (x1 + l2).toNatClampNeg) := R_full _
  have f_178 : R (-2147483648) 2147483647 ((mI h 26 x1.toNatClampNeg) + (mI h 26 (x1 + l2).toNatClampNeg)) := R_full _
  have f_181 : R (-2147483648) 2147483647 x4 := rf_eq f_178 ex4
  have f_182 : R 2 30 (x1 + l3) := R_add f_176 fl3 2 30 (by decide)
  refine ⟨vin f_182 (by decide), ?_⟩
  have f_183 : R 3 31 ((x1 + l3) + l2) := R_add f_182 fl2 3 31 (by decide)
  refine ⟨vin f_183 (by decide), ?_⟩
  intro x7 ex7
  have f_185 : R (-2147483648) 2147483647 (mI h 26 (x1 + l3).toNatClampNeg) := R_full _
  have f_186 : R (-2147483648) 2147483647 (mI h 26 ((x1 + l3) + l2).toNatClampNeg) := R_full _
  have f_184 : R (-2147483648) 2147483647 ((mI h 26 (x1 + l3).toNatClampNeg) + (mI h 26 ((x1 + l3) + l2).toNatClampNeg)) := R_full _
  have f_187 : R (-2147483648) 2147483647 x7 := rf_eq f_184 ex7
  refine ⟨vin fl1 (by decide), ?_⟩
  refine ⟨vin f_176 (by decide), ?_⟩
  have f_189 : R 1 1 1 := ⟨by decide, by decide⟩
  have f_188 : R 1 29 (x1 + 1) := R_add f_176 f_189 1 29 (by decide)
  refine ⟨vin f_188 (by decide), ?_⟩
  have f_191 : R 2 2 2 := ⟨by decide, by decide⟩
  have f_190 : R 2 30 (x1 + 2) := R_add f_176 f_191 2 30 (by decide)
  refine ⟨vin f_190 (by decide), ?_⟩
  have f_193 : R 3 3 3 := ⟨by decide, by decide⟩
  have f_192 : R 3 31 (x1 + 3) := R_add f_176 f_193 3 31 (by decide)
  refine ⟨vin f_192 (by decide), ?_⟩
  have f_194 : R 0 0 0 := ⟨by decide, by decide⟩
  have f_195 : R (-2) (-2) (-2) := ⟨by decide, by decide⟩
  have ok_196 := Ok_w ok (k := 25) (j := l1.toNatClampNeg) (v := (-2)) (lo := (-2)) (hi := 5) rfl (R_w f_195 (by decide)) (by decide) (nt_k (by decide))
  have ok_197 := Ok_w ok_196 (k := 26) (j := x1.toNatClampNeg) (v := x4) (lo := (-2147483648)) (hi := 2147483647) (rgc_26 _) f_181 (by decide) (nt_k (by decide))
  have ok_198 := Ok_w ok_197 (k := 26) (j := (x1 + 1).toNatClampNeg) (v := x7) (lo := (-2147483648)) (hi := 2147483647) (rgc_26 _) f_187 (by decide) (nt_k (by decide))
  have f_199 : R 0 0 0 := ⟨by decide, by decide⟩
  have ok_200 := Ok_w ok_198 (k := 26) (j := (x1 + 2).toNatClampNeg) (v := 0) (lo := (-2147483648)) (hi := 2147483647) (rgc_26 _) (R_w f_199 (by decide)) (by decide) (nt_k (by decide))
  have f_201 : R 0 0 0 := ⟨by decide, by decide⟩
  have ok_202 := Ok_w ok_200 (k := 26) (j := (x1 + 3).toNatClampNeg) (v := 0) (lo := (-2147483648)) (hi := 2147483647) (rgc_26 _) (R_w f_201 (by decide)) (by decide) (nt_k (by decide))
  have f_203 : R 0 0 0 := ⟨by decide, by decide⟩
  have g_204 := gap_le (N := 4) f_203 (m := 4) (by decide)
  exact L0 l1 l2 l3 x1 x4 x7 0 (wI (wI (wI (wI (wI h 25 l1.toNatClampNeg (-2)) 26 x1.toNatClampNeg x4) 26 (x1 + 1).toNatClampNeg x7) 26 (x1 + 2).toNatClampNeg 0) 26 (x1 + 3).toNatClampNeg 0)  ok_202 (R_w fl1 (by decide)) (R_w fl2 (by decide)) (R_w fl3 (by decide)) (R_w f_176 (by decide)) (R_w f_181 (by decide)) (R_w f_187 (by decide)) (R_w f_194 (by decide)) (by omega)
set_option maxRecDepth 100000 in
set_option maxHeartbeats 4000000 in
theorem s_X8_merge_L {g : gT} {h0 : mh_T} {P : mh_T → Prop} (hG0 : GI h0) (hp : ∀ h', Ok [3, 24, 25, 26, 27] h0 h' → P h') : ∀ n : Nat, (∀ (l1 : Int32) (l2 : Int32) (h : mh_T), Ok [3, 24, 25, 26, 27] h0 h → R (-2147483648) 2147483647 l1 → R (-1) 7 l2 → l2 < mI h 3 2 → 1 * gad_ (-1) l2 + 0 < n → ME g uX8_merge 7 [.ref 3, .int l1, .int l2] [] h (qV P)) := by
  intro n
  induction n with
  | zero =>
    exact (fun _ _ _ _ _ _ _ hm => absurd hm (Nat.not_lt_zero _))
  | succ n ih =>
    intro l1 l2 h  ok fl1 fl2  rl0   hm
    refine r_X8_merge_7 l1 l2  ?_
    refine ⟨fun c_72 => ?_, fun c_72 => ?_⟩
    · have f_73 : R 0 0 0 := ⟨by decide, by decide⟩
      have f_74 : R (-1) (-1) l2 := rf_lt_l fl2 f_73 c_72 (-1) (by decide)
      have f_76 : R (-2147483648) 2147483647 (mI h 3 3) := R_full _
      have f_77 : R 1 1 1 := ⟨by decide, by decide⟩
      have f_75 : R (-2147483648) 2147483647 ((mI h 3 3) + 1) := R_full _
      have ok_78 := Ok_w ok (k := 3) (j := 3) (v := ((mI h 3 3) + 1)) (lo := (-2147483648)) (hi := 2147483647) (by decide) f_75 (by decide) (by decide)
      exact hp _ ok_78
    · have f_79 : R 0 0 0 := ⟨by decide, by decide⟩
      have f_80 : R 0 7 l2 := rf_le_r f_79 fl2 (nlt c_72) 0 (by decide)
      have f_81 : R 0 8 (mI h 3 2) := GI_rd ok.1 3 _ (by decide)
      have f_82 : R 0 0 0 := ⟨by decide, by decide⟩
      refine ⟨vin f_80 (by decide), ?_⟩
      refine ⟨fun c_83 => ?_, fun c_83 => ?_⟩
      · have f_84 : R (-2) 5 (mI h 25 l2.toNatClampNeg) := GI_rd ok.1 25 _ rfl
        have f_85 : R 0 0 0 := ⟨by decide, by decide⟩
        have f_86 : R 0 5 (mI h 25 l2.toNatClampNeg) := rf_le_r f_85 f_84 c_83 0 (by decide)
        have f_87 : R 0 0 0 := ⟨by decide, by decide⟩
        refine ⟨vin f_80 (by decide), ?_⟩
        refine ⟨fun c_88 => ?_, fun c_88 => ?_⟩
        · have f_89 : R 0 5 (mI h 24 l2.toNatClampNeg) := GI_rd ok.1 24 _ rfl
          have f_90 : R 0 0 0 := ⟨by decide, by decide⟩
          refine ⟨vin f_80 (by decide), ?_⟩
          refine ⟨fun c_91 => ?_, fun c_91 => ?_⟩
          · have f_93 : R (-1) (-1) (-1) := ⟨by decide, by decide⟩
            have f_92 : R (-1) 6 (l2 + (-1)) := R_add f_80 f_93 (-1) 6 (by decide)
            have f_94 : R 1 8 (mI h 3 2) := rf_lt_r f_80 f_81 rl0 1 (by decide)
            have f_95 : R 0 0 0 := ⟨by decide, by decide⟩
            have g_96 := gad_dec (L := (-1)) f_80 (by decide)
            exact ih l1 (l2 + (-1)) h  ok (R_w fl1 (by decide)) (R_w f_92 (by decide)) (lt_dec f_80 rl0 (by decide)) (by omega)
          · have f_97 : R 0 5 l1 := rf_eq' f_86 c_91
            have f_98 : R 1 1 1 := ⟨by decide, by decide⟩
            have f_99 : R 2 2 2 := ⟨by decide, by decide⟩
            have f_100 : R 1 1 1 := ⟨by decide, by decide⟩
            have f_101 : R 2 2 2 := ⟨by decide, by decide⟩
            have f_102 : R 1 1 1 := ⟨by decide, by decide⟩
            have f_103 : R 2 2 2 := ⟨by decide, by decide⟩
            refine s_X8_putTogether_v1 l2 1 2 ok.1 (R_w f_80 (by decide)) (R_w f_102 (by decide)) (R_w f_103 (by decide)) (fun h8 ko_104 => ?_)
            have ok_105 := Ok_tr ok ko_104 (by decide)
            have f_107 : R (-1) (-1) (-1) := ⟨by decide, by decide⟩
            have f_106 : R (-1) 6 (l2 + (-1)) := R_add f_80 f_107 (-1) 6 (by decide)
            have f_108 : R 1 8 (mI h 3 2) := rf_lt_r f_80 f_81 rl0 1 (by decide)
            have f_109 : R 0 0 0 := ⟨by decide, by decide⟩
            have g_110 := gad_dec (L := (-1)) f_80 (by decide)
            exact ih l1 (l2 + (-1)) h8  ok_105 (R_w f_97 (by decide)) (R_w f_106 (by decide)) (by rw [Ok_eq ko_104 (by decide)]; exact (lt_dec f_80 rl0 (by decide))) (by omega)
        · have f_111 : R 0 5 (mI h 24 l2.toNatClampNeg) := GI_rd ok.1 24 _ rfl
          have f_112 : R 0 5 l1 := rf_eq' f_111 c_88
          have f_113 : R 0 0 0 := ⟨by decide, by decide⟩
          refine ⟨vin f_80 (by decide), ?_⟩
          have f_114 : R 0 0 0 := ⟨by decide, by decide⟩
          refine ⟨vin f_80 (by decide), ?_⟩
          have f_115 : R 2 2 2 := ⟨by decide, by decide⟩
          have f_116 : R 1 1 1 := ⟨by decide, by decide⟩
          have f_117 : R 0 0 0 := ⟨by decide, by decide⟩
          have ok_118 := Ok_w ok (k := 24) (j := l2.toNatClampNeg) (v := (mI h 25 l2.toNatClampNeg)) (lo := 0) (hi := 5) rfl f_86 (by decide) (nt_k (by decide))
          have f_119 : R 2 2 2 := ⟨by decide, by decide⟩
          have f_120 : R 1 1 1 := ⟨by decide, by decide⟩
          refine s_X8_putTogether_v0 l2 2 1 ok_118.1 (R_w f_80 (by decide)) (R_w f_119 (by decide)) (R_w f_120 (by decide)) (fun h11 ko_121 => ?_)
          have ok_122 := Ok_tr ok_118 ko_121 (by decide)
          have f_124 : R (-1) (-1) (-1) := ⟨by decide, by decide⟩
          have f_123 : R (-1) 6 (l2 + (-1)) := R_add f_80 f_124 (-1) 6 (by decide)
          have f_125 : R 1 8 (mI h 3 2) := rf_lt_r f_80 f_81 rl0 1 (by decide)
          have f_126 : R 0 0 0 := ⟨by decide, by decide⟩
          have g_127 := gad_dec (L := (-1)) f_80 (by decide)
          exact ih l1 (l2 + (-1)) h11  ok_122 (R_w f_112 (by decide)) (R_w f_123 (by decide)) (by rw [Ok_eq ko_121 (by decide)]; exact (lt_dec f_80 rl0 (by decide))) (by omega)
      · have f_128 : R (-2) 5 (mI h 25 l2.toNatClampNeg) := GI_rd ok.1 25 _ rfl
        have f_129 : R 0 0 0 := ⟨by decide, by decide⟩
        have f_130 : R (-2) (-1) (mI h 25 l2.toNatClampNeg) := rf_lt_l f_128 f_129 (nle c_83) (-1) (by decide)
        have f_131 : R 0 0 0 := ⟨by decide, by decide⟩
        refine ⟨vin f_80 (by decide), ?_⟩
        refine ⟨fun c_132 => ?_, fun c_132 => ?_⟩
        · have f_133 : R 0 5 (mI h 24 l2.toNatClampNeg) := GI_rd ok.1 24 _ rfl
          have f_135 : R (-1) (-1) (-1) := ⟨by decide, by decide⟩
          have f_134 : R (-1) 6 (l2 + (-1)) := R_add f_80 f_135 (-1) 6 (by decide)
          have f_136 : R 1 8 (mI h 3 2) := rf_lt_r f_80 f_81 rl0 1 (by decide)
          have f_137 : R 0 0 0 := ⟨by decide, by decide⟩
          have g_138 := gad_dec (L := (-1)) f_80 (by decide)
          exact ih l1 (l2 + (-1)) h  ok (R_w fl1 (by decide)) (R_w f_134 (by decide)) (lt_dec f_80 rl0 (by decide)) (by omega)
        · have f_139 : R 0 5 (mI h 24 l2.toNatClampNeg) := GI_rd ok.1 24 _ rfl
          have f_140 : R 0 5 l1 := rf_eq' f_139 c_132
          have f_141 : R 1 8 (mI h 3 2) := rf_lt_r f_80 f_81 rl0 1 (by decide)
          refine s_X8_remove l2 ok.1 (R_w f_80 (by decide)) (R_w f_141 (by decide)) (fun h14 ko_142 po_144 => ?_)
          have ok_143 := Ok_tr ok ko_142 (by decide)
          have f_146 : R (-1) (-1) (-1) := ⟨by decide, by decide⟩
          have f_145 : R (-1) 6 (l2 + (-1)) := R_add f_80 f_146 (-1) 6 (by decide)
          have f_148 : R 1 1 1 := ⟨by decide, by decide⟩
          have f_147 : R 0 7 ((mI h 3 2) - 1) := R_sub f_141 f_148 0 7 (by decide)
          have f_149 : R 0 0 0 := ⟨by decide, by decide⟩
          have g_150 := gad_dec (L := (-1)) f_80 (by decide)
          exact ih l1 (l2 + (-1)) h14  ok_143 (R_w f_140 (by decide)) (R_w f_145 (by decide)) (by rw [po_144]; exact (lt_dec2 f_80 f_141 rl0 (by decide))) (by omega)
set_option maxRecDepth 100000 in
set_option maxHeartbeats 4000000 in
theorem s_X8_merge {g : gT} {h : mh_T} {P : mh_T → Prop} (l1 : Int32) (hG : GI h)  (hp : ∀ h', Ok [3, 24, 25, 26, 27] h h' → P h') : MCv g yX8_merge uX8_merge [.ref 3, .int l1] h P := by
  have ok : Ok [3, 24, 25, 26, 27] h h := Ok_rf hG
  have L0 := s_X8_merge_L (g := g) hG hp 9
  refine e_X8_merge l1  ?_
  intro x1 ex1
  have f_152 : R 0 8 (mI h 3 2) := GI_rd ok.1 3 _ (by decide)
  have f_153 : R 1 1 1 := ⟨by decide, by decide⟩
  have f_151 : R (-1) 7 ((mI h 3 2) - 1) := R_sub f_152 f_153 (-1) 7 (by decide)
  have f_154 : R (-1) 7 x1 := rf_eq f_151 ex1
  have g_155 := gad_le (L := (-1)) f_154 (m := 8) (by decide)
  exact L0 l1 x1 h  ok (R_w (R_full l1) (by decide)) (R_w f_154 (by decide)) (by rw [ex1]; exact (sub1_lt f_152 (by decide))) (by omega)
set_option maxRecDepth 100000 in
set_option maxHeartbeats 4000000 in
theorem s_X8_move {g : gT} {h : mh_T} {P : mh_T → Prop} (l1 : Int32) (l2 : Int32) (l3 : Int32) (hG : GI h) (fl1 : R 0 31 l1) (fl2 : R 0 31 l2) (hp : ∀ h', Ok [3, 26] h h' → P h') : MCv g yX8_move uX8_move [.ref 3, .int l1, .int l2, .int l3] h P := by
  have ok : Ok [3, 26] h h := Ok_rf hG
  refine e_X8_move l1 l2 l3  ?_
  refine ⟨vin fl1 (by decide), ?_⟩
  refine ⟨vin fl1 (by decide), ?_⟩
  refine ⟨vin fl2 (by decide), ?_⟩
  refine ⟨vin fl2 (by decide), ?_⟩
  have f_14 : R (-2147483648) 2147483647 (mI h 26 l1.toNatClampNeg) := R_full _
  have f_13 : R (-2147483648) 2147483647 ((mI h 26 l1.toNatClampNeg) - l3) := R_full _
  have ok_15 := Ok_w ok (k := 26) (j := l1.toNatClampNeg) (v := ((mI h 26 l1.toNatClampNeg) - l3)) (lo := (-2147483648)) (hi := 2147483647) (rgc_26 _) f_13 (by decide) (nt_k (by decide))
  have f_17 : R (-2147483648) 2147483647 (mI (wI h 26 l1.toNatClampNeg ((mI h 26 l1.toNatClampNeg) - l3)) 26 l2.toNatClampNeg) := R_full _
  have f_16 : R (-2147483648) 2147483647 ((mI (wI h 26 l1.toNatClampNeg ((mI h 26 l1.toNatClampNeg) - l3)) 26 l2.toNatClampNeg) + l3) := R_full _
  have ok_18 := Ok_w ok_15 (k := 26) (j := l2.toNatClampNeg) (v := ((mI (wI h 26 l1.toNatClampNeg ((mI h 26 l1.toNatClampNeg) - l3)) 26 l2.toNatClampNeg) + l3)) (lo := (-2147483648)) (hi := 2147483647) (rgc_26 _) f_16 (by decide) (nt_k (by decide))
  have f_22 : R (-2147483648) 2147483647 (mI h 3 3) := R_full _
  have f_21 : R (-2147483648) 2147483647 (mI (wI h 26 l1.toNatClampNeg ((mI h 26 l1.toNatClampNeg) - l3)) 3 3) := (rd_ne f_22 (by decide))
  have f_20 : R (-2147483648) 2147483647 (mI (wI (wI h 26 l1.toNatClampNeg ((mI h 26 l1.toNatClampNeg) - l3)) 26 l2.toNatClampNeg ((mI (wI h 26 l1.toNatClampNeg ((mI h 26 l1.toNatClampNeg) - l3)) 26 l2.toNatClampNeg) + l3)) 3 3) := (rd_ne f_21 (by decide))
  have f_23 : R 1 1 1 := ⟨by decide, by decide⟩
  have f_19 : R (-2147483648) 2147483647 ((mI (wI (wI h 26 l1.toNatClampNeg ((mI h 26 l1.toNatClampNeg) - l3)) 26 l2.toNatClampNeg ((mI (wI h 26 l1.toNatClampNeg ((mI h 26 l1.toNatClampNeg) - l3)) 26 l2.toNatClampNeg) + l3)) 3 3) + 1) := R_full _
  have ok_24 := Ok_w ok_18 (k := 3) (j := 3) (v := ((mI (wI (wI h 26 l1.toNatClampNeg ((mI h 26 l1.toNatClampNeg) - l3)) 26 l2.toNatClampNeg ((mI (wI h 26 l1.toNatClampNeg ((mI h 26 l1.toNatClampNeg) - l3)) 26 l2.toNatClampNeg) + l3)) 3 3) + 1)) (lo := (-2147483648)) (hi := 2147483647) (by decide) f_19 (by decide) (by decide)
  exact hp _ ok_24
set_option maxRecDepth 100000 in
set_option maxHeartbeats 4000000 in
theorem s_X9_open_L {g : gT} {h0 : mh_T} {P : mh_T → Prop} (hp : ∀ h', Ok [9, 34, 35, 36] h0 h' → P h') : ∀ n : Nat, (∀ (l2 : Int32) (h : mh_T), Ok [9, 34, 35, 36] h0 h → R 0 4 l2 → (mI h 9 2).toInt ≤ 6 * l2.toInt → 8 * gap 4 l2 + 7 < n → ME g uX9_open 20 [.ref 9, .ref 2, .int l2, .retAddr 0, .retAddr 0] [] h (qV P)) ∧ (∀ (l2 l3 l4 : Int32) (h : mh_T), Ok [9, 34, 35, 36] h0 h → R 0 3 l2 → R 0 6 l3 → R 0 6 l4 → (mI h 9 2).toInt ≤ 6 * l2.toInt + l4.toInt → 8 * gap 4 l2 + gap 6 l4 < n → ME g uX9_open 38 [.ref 9, .ref 2, .int l2, .int l3, .int l4] [] h (qV P)) := by
  intro n
  induction n with
  | zero => exact ⟨fun _ _ _ _ _ hm => absurd hm (Nat.not_lt_zero _), fun _ _ _ _ _ _ _ _ _ hm => absurd hm (Nat.not_lt_zero _)⟩
  | succ n ih =>
    have f1 : R 1 1 1 := ⟨by decide, by decide⟩
    refine ⟨?_, ?_⟩
    · intro l2 h ok f2 hr hm
      have fr : R 0 4 (mI h 9 0) := GI_rd ok.1 9 0 (by decide)
      refine r_X9_open_20 l2 ⟨fun c => hp _ ok, fun c => ?_⟩
      have g2 : R 0 3 l2 := rf_lt_l f2 fr (nle c) 3 (by decide)
      refine ⟨vin g2 (by decide), ?_⟩
      intro x3 e3
      have f3 : R 0 6 x3 := rf_eq (GI_rd ok.1 21 l2.toNatClampNeg rfl) e3
      have f4 : R 0 0 0 := ⟨by decide, by decide⟩
      have := gap_le (N := 6) f4 (m := 6) (by decide)
      have z : (0 : Int32).toInt = 0 := by decide
      exact ih.2 l2 x3 0 h ok g2 f3 (R_w f4 (by decide)) (by omega) (by omega)
    · intro l2 l3 l4 h ok f2 f3 f4 hr hm
      refine r_X9_open_38 l2 l3 l4 ⟨fun c => ?_, fun c => ?_⟩
      · have e2 := ti_inc f2 (by decide)
        have := gap_inc (N := 4) f2 (by decide)
        have := f4.2
        exact ih.1 (l2 + 1) h ok (R_add f2 f1 0 4 (by decide)) (by omega) (by omega)
      · have g4 : R 0 5 l4 := rf_lt_l f4 f3 (nle c) 5 (by decide)
        have fs0 : R 0 24 (mI h 9 2) := GI_rd ok.1 9 2 (by decide)
        have fs : R 0 23 (mI h 9 2) := ⟨fs0.1, by have := f2.2; have := g4.2; omega⟩
        have f6 : R 6 6 6 := ⟨by decide, by decide⟩
        have fi : R 0 23 ((6 * l2) + l4) := R_add (R_mul f6 f2 0 18 (by decide)) g4 0 23 (by decide)
        have fa : R 0 5 (mI h 22 ((6 * l2) + l4).toNatClampNeg) := GI_rd ok.1 22 _ rfl
        have fb : R 0 1 (mI h 23 ((6 * l2) + l4).toNatClampNeg) := GI_rd ok.1 23 _ rfl
        have e4 := ti_inc g4 (by decide)
        have es := ti_inc fs (by decide)
        have := gap_inc (N := 6) g4 (by decide)
        have o1 := Ok_w ok (k := 34) (j := (mI h 9 2).toNatClampNeg) (v := mI h 22 ((6 * l2) + l4).toNatClampNeg) (lo := 0) (hi := 5) rfl fa (by decide) (nt_k (by decide))
        have o2 := Ok_w o1 (k := 35) (j := (mI h 9 2).toNatClampNeg) (v := mI h 23 ((6 * l2) + l4).toNatClampNeg) (lo := 0) (hi := 1) rfl fb (by decide) (nt_k (by decide))
        refine ⟨vin fi (by decide), vin fs (by decide), vin fi (by decide), vin (x := mI h 9 2) fs (by decide), fun c2 => ⟨vin (x := mI h 9 2) fs (by decide), ?_⟩, fun c2 => ⟨vin (x := mI h 9 2) fs (by decide), ?_⟩⟩
        · have o3 := Ok_w o2 (k := 36) (j := (mI h 9 2).toNatClampNeg) (v := 0) (lo := 0) (hi := 1) rfl ⟨by decide, by decide⟩ (by decide) (nt_k (by decide))
          have o4 := Ok_w o3 (k := 9) (j := 2) (v := mI h 9 2 + 1) (lo := 0) (hi := 24) (by decide) (R_add fs f1 0 24 (by decide)) (by decide) (by decide)
          refine ih.2 l2 l3 (l4 + 1) _ o4 f2 f3 (R_add g4 f1 0 6 (by decide)) ?_ (by omega)
          show (mI h 9 2 + 1).toInt ≤ _
          omega
        · have o3 := Ok_w o2 (k := 36) (j := (mI h 9 2).toNatClampNeg) (v := 1) (lo := 0) (hi := 1) rfl ⟨by decide, by decide⟩ (by decide) (nt_k (by decide))
          have o4 := Ok_w o3 (k := 9) (j := 2) (v := mI h 9 2 + 1) (lo := 0) (hi := 24) (by decide) (R_add fs f1 0 24 (by decide)) (by decide) (by decide)
          refine ih.2 l2 l3 (l4 + 1) _ o4 f2 f3 (R_add g4 f1 0 6 (by decide)) ?_ (by omega)
          show (mI h 9 2 + 1).toInt ≤ _
          omega
set_option maxRecDepth 100000 in
theorem s_X9_open {g : gT} {h : mh_T} {P : mh_T → Prop} (hG : GI h) (hp : ∀ h', Ok [9, 34, 35, 36] h h' → P h') : MCv g yX9_open uX9_open [.ref 9, .ref 2] h P := by
  have ok : Ok [9, 34, 35, 36] h h := Ok_rf hG
  have f0 : R 0 0 0 := ⟨by decide, by decide⟩
  have o1 := Ok_w ok (k := 9) (j := 0) (v := mI h 2 6) (lo := 0) (hi := 4) (by decide) (GI_rd hG 2 6 (by decide)) (by decide) (by decide)
  have o2 := Ok_w o1 (k := 9) (j := 2) (v := 0) (lo := 0) (hi := 24) (by decide) (R_w f0 (by decide)) (by decide) (by decide)
  have o3 := Ok_w o2 (k := 9) (j := 3) (v := 0) (lo := 0) (hi := 1) (by decide) (R_w f0 (by decide)) (by decide) (by decide)
  refine e_X9_open ?_
  have := gap_le (N := 4) f0 (m := 4) (by decide)
  exact (s_X9_open_L hp 40).1 0 _ o3 (R_w f0 (by decide)) (by show (0 : Int32).toInt ≤ _; decide) (by omega)
/-- where a pair has an answer it has a state to go to -/
def TI (h : mh_T) : Prop := ∀ p, p < 18 → 0 ≤ (mI h 37 p).toInt → 0 ≤ (mI h 38 p).toInt
theorem tn_lt {x : Int32} {n : Nat} {lo hi : Int} (f : R lo hi x) (h : hi < (n : Int) ∧ 0 < n) : x.toNatClampNeg < n := ix_lt f h
set_option maxRecDepth 100000 in
set_option maxHeartbeats 8000000 in
theorem s_X9_tell_M {g : gT} : ∀ (m : Nat) (K : Nat) (l1 l2 l3 l4 : Int32) (h : mh_T) (P : Int32 → mh_T → Prop), 2 * m + 1 ≤ K → R 0 24 l1 → 24 - l1.toInt ≤ m → R 0 2 l2 → GI h → TI h → (∀ r h', Ok [37, 38, 39] h h' → TI h' → P r h') → MCi g yX9_tell (uX9_tell K) [.ref 9, .int l1, .int l2, .int l3, .int l4] h P := by
  intro m
  induction m with
  | zero =>
    intro K l1 l2 l3 l4 h P hK f1 hm f2 hG hT hp
    obtain ⟨K, rfl⟩ : ∃ q, K = q + 1 := ⟨K - 1, by omega⟩
    have fs : R 0 24 (mI h 9 2) := GI_rd hG 9 2 (by decide)
    refine e_X9_tell l1 l2 l3 l4 ⟨fun c => ?_, fun c => hp _ _ (Ok_rf hG) hT⟩
    have := lt_ti c
    have := fs.2
    omega
  | succ m ih =>
    intro K l1 l2 l3 l4 h P hK f1 hm f2 hG hT hp
    obtain ⟨K, rfl⟩ : ∃ q, K = q + 1 := ⟨K - 1, by omega⟩
    obtain ⟨K, rfl⟩ : ∃ q, K = q + 1 := ⟨K - 1, by omega⟩
    have c1 : R 1 1 1 := ⟨by decide, by decide⟩
    -- tellOn
    have on : ∀ (a1 a2 a3 a4 : Int32) (k : mh_T) (Q : Int32 → mh_T → Prop), R 0 23 a1 → 24 - a1.toInt ≤ m + 1 → R 0 17 a2 → 0 ≤ (mI k 38 a2.toNatClampNeg).toInt → GI k → TI k → (∀ r h', Ok [37, 38, 39] k h' → TI h' → Q r h') → MCi g yX9_tellOn (uX9_tellOn (K + 1)) [.ref 9, .int a1, .int a2, .int a3, .int a4] k Q := by
      intro a1 a2 a3 a4 k Q g1 gm g2 g3 kG kT hq
      have e1 := ti_inc g1 (by decide)
      have fg : R (-2) 2 (mI k 38 a2.toNatClampNeg) := GI_rd kG 38 _ rfl
      have z0 : R 0 0 0 := ⟨by decide, by decide⟩
      refine e_X9_tellOn a1 a2 a3 a4 ⟨vin g1 (by decide), fun _ => ⟨vin g2 (by decide), ?_⟩, fun _ => ?_⟩
      · exact ih K _ _ _ _ k _ (by omega) (R_add g1 c1 0 24 (by decide)) (by omega) ⟨g3, fg.2⟩ kG kT hq
      · exact ih K _ _ _ _ k _ (by omega) (R_add g1 c1 0 24 (by decide)) (by omega) (R_w z0 (by decide)) kG kT hq
    have fs : R 0 24 (mI h 9 2) := GI_rd hG 9 2 (by decide)
    refine e_X9_tell l1 l2 l3 l4 ⟨fun c => ?_, fun c => hp _ _ (Ok_rf hG) hT⟩
    have g1 : R 0 23 l1 := rf_lt_l f1 fs c 23 (by decide)
    have gm : 24 - l1.toInt ≤ m + 1 := by omega
    refine ⟨vin g1 (by decide), fun x3 e3 => ?_⟩
    have f6 : R 6 6 6 := ⟨by decide, by decide⟩
    have fl : R 0 5 (mI h 34 l1.toNatClampNeg) := GI_rd hG 34 _ rfl
    have f3 : R 0 17 x3 := rf_eq (R_add (R_mul f6 f2 0 12 (by decide)) fl 0 17 (by decide)) e3
    have ft : R 0 1 (mI h 35 l1.toNatClampNeg) := GI_rd hG 35 _ rfl
    have z0 : (0 : Int32).toInt = 0 := by decide
    refine ⟨vin f3 (by decide), fun c2 => ⟨vin g1 (by decide), vin f3 (by decide), vin f3 (by decide), fun x9 e9 => ?_⟩, fun c2 => ⟨vin f3 (by decide), vin g1 (by decide), fun c3 => ?_, fun c3 => ⟨vin f3 (by decide), hp _ _ (Ok_rf hG) hT⟩⟩⟩
    · -- the loop
      have o1 := Ok_w (ms := [37, 38, 39]) (Ok_rf hG) (k := 37) (j := x3.toNatClampNeg) (v := mI h 35 l1.toNatClampNeg) (lo := -2) (hi := 1) rfl (R_w ft (by decide)) (by decide) (nt_k (by decide))
      have o2 := Ok_w o1 (k := 39) (j := x3.toNatClampNeg) (v := l3) (lo := -2147483648) (hi := 2147483647) rfl (R_full _) (by decide) (nt_k (by decide))
      have fst : R 0 3 (mI h 9 1) := GI_rd hG 9 1 (by decide)
      have f9 : x9.toInt ≤ 2 := by
        have fm : R (-1) 2 (mI h 9 1 - 1) := R_sub fst c1 (-1) 2 (by decide)
        have e9' : x9 = if l4 + 1 < mI h 9 1 - 1 then l4 + 1 else mI h 9 1 - 1 := e9
        rw [e9']
        split
        · rename_i q
          have := lt_ti q
          have := fm.2
          omega
        · exact fm.2
      have L : ∀ (n : Nat) (l6 l7 l9 : Int32) (k : mh_T), Ok [37, 38, 39] h k → (∀ p, p < 18 → p ≠ x3.toNatClampNeg → 0 ≤ (mI k 37 p).toInt → 0 ≤ (mI k 38 p).toInt) → R 0 3 l9 → gap 3 l9 < n → ME g (uX9_tell (K + 1 + 1)) 115 [.ref 9, .int l1, .int l2, .int l3, .int l4, .int x3, .int l6, .int l7, .int x9, .int l9, .retAddr 0] [] k (qI P) := by
        intro n
        induction n with
        | zero => intro l6 l7 l9 k _ _ _ hn; exact absurd hn (Nat.not_lt_zero _)
        | succ n ihn =>
          intro l6 l7 l9 k kO kT g9 hn
          have fin : ∀ r, P r (wI (wI k 37 x3.toNatClampNeg (-2)) 38 x3.toNatClampNeg (-2)) := by
            intro r
            have q1 := Ok_w kO (k := 37) (j := x3.toNatClampNeg) (v := -2) (lo := -2) (hi := 1) rfl ⟨by decide, by decide⟩ (by decide) (nt_k (by decide))
            have q2 := Ok_w q1 (k := 38) (j := x3.toNatClampNeg) (v := -2) (lo := -2) (hi := 2) rfl ⟨by decide, by decide⟩ (by decide) (nt_k (by decide))
            refine hp _ _ q2 (fun p hp18 => ?_)
            rw [mI_wI, mI_wI, mI_wI, mI_wI]
            by_cases hpx : p = x3.toNatClampNeg
            · subst hpx
              simp
            · simp [hpx]
              exact kT p hp18 hpx
          refine r_X9_tell_115 l1 l2 l3 l4 x3 l6 l7 x9 l9 ⟨fun _ => ⟨vin f3 (by decide), vin f3 (by decide), fin _⟩, fun _ => ⟨fun _ => ⟨vin f3 (by decide), vin f3 (by decide), fin _⟩, fun c4 => ⟨vin f3 (by decide), ?_⟩⟩⟩
          have c4 := le_ti (nlt c4)
          have g9' : R 0 2 l9 := ⟨g9.1, by omega⟩
          have q1 := Ok_w kO (k := 38) (j := x3.toNatClampNeg) (v := l9) (lo := -2) (hi := 2) rfl (R_w g9' (by decide)) (by decide) (nt_k (by decide))
          have := gap_inc (N := 3) g9' (by decide)
          refine on l1 x3 l3 _ _ _ g1 gm f3 ?_ q1.1 ?_ (fun r9 h8 k8 t8 => ?_)
          · rw [mI_wI, if_pos ⟨rfl, rfl⟩]
            exact g9.1
          · intro p hp18
            rw [mI_wI, mI_wI]
            by_cases hpx : p = x3.toNatClampNeg
            · subst hpx
              simp
              intro _
              exact g9.1
            · simp [hpx]
              exact kT p hp18 hpx
          · have k9 := Ok_tr q1 k8 (by decide)
            refine ⟨fun _ => ⟨fun _ => ?_, fun _ x14 _ => ?_⟩, fun _ => hp _ _ k9 t8⟩
            · exact ihn _ _ _ _ k9 (fun p hp18 _ => t8 p hp18) (R_add g9' c1 0 3 (by decide)) (by omega)
            · exact ihn _ _ _ _ k9 (fun p hp18 _ => t8 p hp18) (R_add g9' c1 0 3 (by decide)) (by omega)
      have z1 : R 0 0 0 := ⟨by decide, by decide⟩
      refine L 4 0 1 0 _ o2 ?_ (R_w z1 (by decide)) (by decide)
      intro p hp18 hpx
      show 0 ≤ (mI (wI (wI h 37 x3.toNatClampNeg _) 39 _ _) 37 p).toInt → 0 ≤ (mI (wI (wI h 37 _ _) 39 _ _) 38 p).toInt
      rw [mI_wI, mI_wI, mI_wI, mI_wI]
      simp [hpx]
      exact hT p hp18
    · refine on l1 x3 l3 l4 h _ g1 gm f3 ?_ hG hT hp
      refine hT _ (tn_lt f3 (by decide)) ?_
      have := le_ti (nlt c2)
      omega
theorem s_X9_tell {g : gT} {h : mh_T} {P : Int32 → mh_T → Prop} (hG : GI h) (hT : TI h) (hp : ∀ r h', Ok [37, 38, 39] h h' → P r h') : MCi g yX9_tell (uX9_tell 70) [.ref 9, .int 0, .int 0, .int 0, .int 0] h P :=
  s_X9_tell_M 24 70 0 0 0 0 h P (by decide) ⟨by decide, by decide⟩ (by decide) ⟨by decide, by decide⟩ hG hT (fun r h' k _ => hp r h' k)
set_option maxRecDepth 100000 in
theorem s_X9_work_L {g : gT} {h0 : mh_T} {P : mh_T → Prop} (hp : ∀ h', Ok [9, 37, 38, 39] h0 h' → P h') : ∀ n : Nat, (∀ (l1 : Int32) (h : mh_T), Ok [9, 37, 38, 39] h0 h → R 1 4 l1 → 20 * gap 4 l1 + 19 < n → ME g uX9_work 15 [.ref 9, .int l1, .retAddr 0] [] h (qV P)) ∧ (∀ (l1 l2 : Int32) (h : mh_T), Ok [9, 37, 38, 39] h0 h → R 1 3 l1 → R 0 18 l2 → (∀ p, p < l2.toNatClampNeg → (mI h 37 p).toInt < 0) → 20 * gap 4 l1 + gap 18 l2 < n → ME g uX9_work 27 [.ref 9, .int l1, .int l2] [] h (qV P)) := by
  intro n
  induction n with
  | zero => exact ⟨fun _ _ _ _ hm => absurd hm (Nat.not_lt_zero _), fun _ _ _ _ _ _ _ hm => absurd hm (Nat.not_lt_zero _)⟩
  | succ n ih =>
    have c1 : R 1 1 1 := ⟨by decide, by decide⟩
    have c3 : R 3 3 3 := ⟨by decide, by decide⟩
    have c18 : R 18 18 18 := ⟨by decide, by decide⟩
    have z0 : R 0 0 0 := ⟨by decide, by decide⟩
    refine ⟨?_, ?_⟩
    · intro l1 h ok f1 hm
      refine r_X9_work_15 l1 ⟨fun c => ?_, fun c => ?_⟩
      · exact hp _ (Ok_w ok (k := 9) (j := 1) (v := 0) (lo := 0) (hi := 3) (by decide) (R_w z0 (by decide)) (by decide) (by decide))
      · have g1 : R 1 3 l1 := rf_le_l f1 c3 (nlt c) 3 (by decide)
        have := gap_le (N := 18) z0 (m := 18) (by decide)
        refine ih.2 l1 0 _ (Ok_w ok (k := 9) (j := 1) (v := l1) (lo := 0) (hi := 3) (by decide) (R_w g1 (by decide)) (by decide) (by decide)) g1 (R_w z0 (by decide)) (fun p hp0 => ?_) (by omega)
        exact absurd hp0 (by decide +revert)
    · intro l1 l2 h ok f1 f2 hneg hm
      have gi := gap_inc (N := 4) f1 (by decide)
      refine r_X9_work_27 l1 l2 ⟨fun c => ?_, fun c => ?_⟩
      · have g2 := le_ti c
        have e18 : (18 : Int32).toInt = 18 := by decide
        refine s_X9_tell ok.1 (fun p hp18 hpos => ?_) (fun r3 h2 k2 => ?_)
        · have : p < l2.toNatClampNeg := by
            show p < l2.toInt.toNat
            omega
          have := hneg p this
          omega
        · have k3 := Ok_tr ok k2 (by decide)
          exact ⟨fun _ => ih.1 (l1 + 1) h2 k3 (R_add f1 c1 1 4 (by decide)) (by omega), fun _ => hp _ k3⟩
      · have g2 : R 0 17 l2 := rf_lt_l f2 c18 (nle c) 17 (by decide)
        have gj := gap_inc (N := 18) g2 (by decide)
        have o1 := Ok_w ok (k := 37) (j := l2.toNatClampNeg) (v := -2) (lo := -2) (hi := 1) rfl ⟨by decide, by decide⟩ (by decide) (nt_k (by decide))
        have o2 := Ok_w o1 (k := 38) (j := l2.toNatClampNeg) (v := -2) (lo := -2) (hi := 2) rfl ⟨by decide, by decide⟩ (by decide) (nt_k (by decide))
        refine ⟨vin g2 (by decide), vin g2 (by decide), ih.2 l1 (l2 + 1) _ o2 f1 (R_add g2 c1 0 18 (by decide)) (fun p hp => ?_) (by omega)⟩
        have e2 := ti_inc g2 (by decide)
        have hp : p < (l2 + 1).toInt.toNat := hp
        show (mI (wI (wI h 37 l2.toNatClampNeg (-2)) 38 l2.toNatClampNeg (-2)) 37 p).toInt < 0
        rw [mI_wI, mI_wI]
        by_cases hpx : p = l2.toNatClampNeg
        · subst hpx
          simp
        · simp [hpx]
          refine hneg p ?_
          have hpx : p ≠ l2.toInt.toNat := hpx
          show p < l2.toInt.toNat
          have := g2.1
          omega
set_option maxRecDepth 100000 in
theorem s_X9_work {g : gT} {h : mh_T} {P : mh_T → Prop} (hG : GI h) (hp : ∀ h', Ok [9, 37, 38, 39] h h' → P h') : MCv g yX9_work uX9_work [.ref 9] h P := by
  have c1 : R 1 1 1 := ⟨by decide, by decide⟩
  have o1 := Ok_w (ms := [9, 37, 38, 39]) (Ok_rf hG) (k := 9) (j := 3) (v := 1) (lo := 0) (hi := 1) (by decide) (R_w c1 (by decide)) (by decide) (by decide)
  have := gap_le (N := 4) c1 (m := 3) (by decide)
  exact e_X9_work ⟨fun _ => (s_X9_work_L hp 100).1 1 _ o1 (R_w c1 (by decide)) (by omega), fun _ => hp _ (Ok_rf hG)⟩
set_option maxRecDepth 100000 in
set_option maxHeartbeats 4000000 in
theorem s_X9_entry {g : gT} {h : mh_T} {P : Int32 → mh_T → Prop} (l1 : Int32) (l2 : Int32) (l3 : Int32) (hG : GI h) (fl1 : R 0 2 l1) (fl2 : R 0 5 l2) (hp : ∀ r : Int32, R (-2) 2 r → P r h) : MCi g yX9_entry uX9_entry [.ref 9, .int l1, .int l2, .int l3] h P := by
  have ok : Ok [] h h := Ok_rf hG
  refine e_X9_entry l1 l2 l3  ?_
  intro x1 ex1
  have f_13 : R 6 6 6 := ⟨by decide, by decide⟩
  have f_12 : R 0 12 (6 * l1) := R_mul f_13 fl1 0 12 (by decide)
  have f_11 : R 0 17 ((6 * l1) + l2) := R_add f_12 fl2 0 17 (by decide)
  have f_14 : R 0 17 x1 := rf_eq f_11 ex1
  refine ⟨fun c_15 => ?_, fun c_15 => ?_⟩
  · have f_16 : R 0 0 0 := ⟨by decide, by decide⟩
    have f_17 : R 0 0 l3 := rf_eq f_16 c_15
    refine ⟨vin f_14 (by decide), ?_⟩
    have f_18 : R (-2) 1 (mI h 37 x1.toNatClampNeg) := GI_rd ok.1 37 _ rfl
    exact hp _ (R_w f_18 (by decide))
  · have f_19 : R 0 0 0 := ⟨by decide, by decide⟩
    refine ⟨vin f_14 (by decide), ?_⟩
    have f_20 : R (-2) 2 (mI h 38 x1.toNatClampNeg) := GI_rd ok.1 38 _ rfl
    exact hp _ (R_w f_20 (by decide))
/-- what a call on the tape leaves: ranges, all cells but two -/
def OkT (ms : List Nat) (h h' : mh_T) : Prop := GI h' ∧ Fr ms h h'
theorem OkT_w {ms : List Nat} {h0 h : mh_T} (a : OkT ms h0 h) {k j : Nat} {v : Int32} {lo hi : Int} (e : rgT k j = (lo, hi)) (f : R lo hi v) (hk : k ∈ ms) : OkT ms h0 (wI h k j v) := by
  refine ⟨GI_w a.1 e f, fun q h62 hq => ?_⟩
  have hne : q ≠ k := fun z => by subst z; exact hq hk
  rw [← (wI_off (h := h) (k := k) (j := j) (v := v)).1 q hne]
  exact a.2 q h62 hq
theorem OkT_tr {ms : List Nat} {h h1 h2 : mh_T} (a : OkT ms h h1) (b : OkT ms h1 h2) : OkT ms h h2 := ⟨b.1, fun k hk hm => ⟨(b.2 k hk hm).1.trans (a.2 k hk hm).1, (b.2 k hk hm).2.1.trans (a.2 k hk hm).2.1, (b.2 k hk hm).2.2.trans (a.2 k hk hm).2.2⟩⟩
theorem ti_dec8 {a b : Int} {x : Int32} (f : R a b x) (h : -2147483640 ≤ a) : (x + (-8)).toInt = x.toInt - 8 := by
  have := f.1
  have := (R_full x).2
  rw [Int32.toInt_add, show (-8 : Int32).toInt = -8 from by decide, bm (by omega) (by omega)]
  omega
set_option maxRecDepth 100000 in
theorem s_X10_put_L {g : gT} {h0 : mh_T} {P : mh_T → Prop} (l1 : Int32) (hf : R 0 896 (mI h0 0 10)) (hp : ∀ h', OkT [0, 12] h0 h' → (mI h' 0 10).toInt = (mI h0 0 10).toInt + 4 → P h') : ∀ (n : Nat) (l2 : Int32) (h : mh_T), n ≤ 4 → l2.toInt = 8 * n - 8 → OkT [0, 12] h0 h → (mI h 0 10).toInt = (mI h0 0 10).toInt + 4 - n → ME g uX10_put 3 [.ref 0, .int l1, .int l2] [] h (qV P) := by
  intro n
  induction n with
  | zero =>
    intro l2 h _ e2 ok ef
    have z : (0 : Int32).toInt = 0 := by decide
    refine r_X10_put_3 l1 l2 ⟨fun c => hp h ok (by omega), fun c => ?_⟩
    have := le_ti (nlt c)
    omega
  | succ n ih =>
    intro l2 h hn e2 ok ef
    have z : (0 : Int32).toInt = 0 := by decide
    refine r_X10_put_3 l1 l2 ⟨fun c => ?_, fun c => ?_⟩
    · have := lt_ti c
      omega
    · have h1 := hf.1
      have h2 := hf.2
      have ff : R 0 899 (mI h 0 10) := ⟨by omega, by omega⟩
      have f1 : R 1 1 1 := ⟨by decide, by decide⟩
      have o1 := OkT_w ok (k := 12) (j := (mI h 0 10).toNatClampNeg) (v := ((l1.toUInt32 >>> (l2.toUInt32 &&& Int32.toUInt32 31)).toInt32) &&& 255) (rgc_12 _) (R_full _) (by decide)
      have o2 := OkT_w o1 (k := 0) (j := 10) (v := mI h 0 10 + 1) (lo := 0) (hi := 900) (by decide) (R_add ff f1 0 900 (by decide)) (by decide)
      have es := ti_inc ff (by decide)
      have e8 := ti_dec8 (x := l2) (a := 0) (b := 24) ⟨by omega, by omega⟩ (by decide)
      refine ⟨vin ff (by decide), ?_⟩
      refine ih (l2 + (-8)) _ (by omega) (by rw [e8]; omega) o2 ?_
      show (mI h 0 10 + 1).toInt = _
      omega
set_option maxRecDepth 100000 in
theorem s_X10_put {g : gT} {h : mh_T} {P : mh_T → Prop} (l1 : Int32) (hG : GI h) (hf : R 0 896 (mI h 0 10)) (hp : ∀ h', OkT [0, 12] h h' → (mI h' 0 10).toInt = (mI h 0 10).toInt + 4 → P h') : MCv g yX10_put uX10_put [.ref 0, .int l1] h P := by
  refine e_X10_put l1 ?_
  exact s_X10_put_L l1 hf hp 4 24 h (by decide) (by decide) ⟨hG, fun _ _ _ => ⟨rfl, rfl, rfl⟩⟩ (by omega)
set_option maxRecDepth 100000 in
theorem s_X10_feed {g : gT} {h : mh_T} {P : Int32 → mh_T → Prop} (l1 l2 l3 l4 l5 : Int32) (hG : GI h) (hp : ∀ r h', OkT [0, 12] h h' → ((mI h 0 10).toInt ≤ 880 → (mI h' 0 10).toInt = (mI h 0 10).toInt + 20 ∧ r = mI h' 0 10) → (¬ (mI h 0 10).toInt ≤ 880 → h' = h ∧ r = -1) → P r h') : MCi g yX10_feed uX10_feed [.ref 0, .int l1, .int l2, .int l3, .int l4, .int l5] h P := by
  have f0 : R 0 900 (mI h 0 10) := GI_rd hG 0 10 (by decide)
  have f20 : R 20 20 20 := ⟨by decide, by decide⟩
  have a1 := f0.1
  have a2 := f0.2
  have es : (mI h 0 10 + 20).toInt = (mI h 0 10).toInt + 20 := by rw [Int32.toInt_add, show (20 : Int32).toInt = 20 from by decide, bm (by omega) (by omega)]
  have z9 : (900 : Int32).toInt = 900 := by decide
  refine e_X10_feed l1 l2 l3 l4 l5 ⟨fun c => ?_, fun c => ?_⟩
  · have c := le_ti c
    rw [es, z9] at c
    refine s_X10_put l1 hG ⟨a1, by omega⟩ (fun h2 k2 e2 => ?_)
    refine s_X10_put l2 k2.1 ⟨by omega, by omega⟩ (fun h3 k3 e3 => ?_)
    refine s_X10_put l3 k3.1 ⟨by omega, by omega⟩ (fun h4 k4 e4 => ?_)
    refine s_X10_put l4 k4.1 ⟨by omega, by omega⟩ (fun h5 k5 e5 => ?_)
    refine s_X10_put l5 k5.1 ⟨by omega, by omega⟩ (fun h6 k6 e6 => ?_)
    exact hp _ _ (OkT_tr (OkT_tr (OkT_tr (OkT_tr k2 k3) k4) k5) k6) (fun _ => ⟨by omega, rfl⟩) (fun z => absurd (by omega) z)
  · have c := lt_ti (nle c)
    rw [es, z9] at c
    exact hp _ _ ⟨hG, fun _ _ _ => ⟨rfl, rfl, rfl⟩⟩ (fun z => by omega) (fun _ => ⟨rfl, rfl⟩)
set_option maxRecDepth 100000 in
set_option maxHeartbeats 4000000 in
theorem s_X10_refused {g : gT} {h : mh_T} {P : Int32 → mh_T → Prop} (l1 : Int32) (hG : GI h)  (hp : ∀ (r : Int32) h', Ok [0] h h' → R (-1) (-1) r → (¬ l1 = 4 → ¬ mI h' 0 11 = 4) → P r h') : MCi g yX10_refused uX10_refused [.ref 0, .int l1] h P := by
  have ok : Ok [0] h h := Ok_rf hG
  refine e_X10_refused l1  ?_
  have ok_3 := Ok_w ok (k := 0) (j := 11) (v := l1) (lo := (-2147483648)) (hi := 2147483647) (by decide) (R_full l1) (by decide) (by decide)
  have f_4 : R (-1) (-1) (-1) := ⟨by decide, by decide⟩
  exact hp _ _ ok_3 (R_w f_4 (by decide)) (fun z => by rw [mI_wI, if_pos ⟨rfl, rfl⟩]; exact z)
set_option maxRecDepth 100000 in
set_option maxHeartbeats 4000000 in
theorem s_X10_told {g : gT} {h : mh_T} {P : Int32 → mh_T → Prop} (l1 : Int32) (hG : GI h)  (hp : ∀ (r : Int32) h', Ok [0] h h' → ¬ mI h' 0 11 = 4 → P r h') : MCi g yX10_told uX10_told [.ref 0, .int l1] h P := by
  have ok : Ok [0] h h := Ok_rf hG
  refine e_X10_told l1  ?_
  have f_3 : R 0 0 0 := ⟨by decide, by decide⟩
  have ok_4 := Ok_w ok (k := 0) (j := 11) (v := 0) (lo := (-2147483648)) (hi := 2147483647) (by decide) (R_w f_3 (by decide)) (by decide) (by decide)
  exact hp _ _ ok_4 (by first | exact tq | exact tq (by decide) | (rw [mI_wI, if_pos ⟨rfl, rfl⟩]; decide)) 
/-- the cells of the class; of the reference -/
abbrev msC : List Nat := [302, 0, 1, 2, 3, 4, 5, 6, 7, 8, 9, 10, 12, 13, 14, 15, 16, 17, 18, 19, 20, 21, 22, 23, 24, 25, 26, 27, 28, 29, 30, 31, 32, 33, 34, 35, 36, 37, 38, 39, 40, 41, 42]
theorem Fr_tr {ms : List Nat} {h h1 h2 : mh_T} (a : Fr ms h h1) (b : Fr ms h1 h2) : Fr ms h h2 := fun k hk hm => ⟨(b k hk hm).1.trans (a k hk hm).1, (b k hk hm).2.1.trans (a k hk hm).2.1, (b k hk hm).2.2.trans (a k hk hm).2.2⟩
set_option maxRecDepth 100000 in
set_option maxHeartbeats 4000000 in
theorem s_X10_fault {g : gT} {h : mh_T} {P : Int32 → mh_T → Prop}  (hG : GI h)  (hp : ∀ r : Int32, P r h) : MCi g yX10_fault uX10_fault [.ref 0] h P := by
  have ok : Ok [] h h := Ok_rf hG
  refine e_X10_fault   ?_
  have f_2 : R (-2147483648) 2147483647 (mI h 0 12) := R_full _
  exact hp _ 
set_option maxRecDepth 100000 in
set_option maxHeartbeats 4000000 in
theorem s_X10_where {g : gT} {h : mh_T} {P : Int32 → mh_T → Prop}  (hG : GI h)  (hp : ∀ r : Int32, P r h) : MCi g yX10_where uX10_where [.ref 0] h P := by
  have ok : Ok [] h h := Ok_rf hG
  refine e_X10_where   ?_
  refine ⟨fun c_9 => ?_, fun c_9 => ?_⟩
  · have f_10 : R (-2147483648) 2147483647 (mI h 0 11) := R_full _
    have f_11 : R 4 4 4 := ⟨by decide, by decide⟩
    have f_12 : R (-1) (-1) (-1) := ⟨by decide, by decide⟩
    exact hp _ 
  · have f_13 : R (-2147483648) 2147483647 (mI h 0 11) := R_full _
    have f_14 : R 4 4 4 := ⟨by decide, by decide⟩
    have f_15 : R 4 4 (mI h 0 11) := rf_eq f_14 c_9
    have f_16 : R (-2147483648) 2147483647 (mI h 0 13) := R_full _
    exact hp _ 
set_option maxRecDepth 100000 in
set_option maxHeartbeats 4000000 in
theorem s_X10_noBook {g : gT} {h : mh_T} {P : Int32 → mh_T → Prop}  (hG : GI h)  (hp : ∀ r : Int32, R 0 1 r → P r h) : MCi g yX10_noBook uX10_noBook [.ref 0] h P := by
  have ok : Ok [] h h := Ok_rf hG
  refine e_X10_noBook   ?_
  refine ⟨fun c_10 => ?_, fun c_10 => ?_⟩
  · have f_11 : R 0 60 (mI h 3 0) := GI_rd ok.1 3 _ (by decide)
    have f_12 : R 0 0 0 := ⟨by decide, by decide⟩
    have f_13 : R 1 60 (mI h 3 0) := rf_ne_lo f_11 c_10 (by decide) 1 rfl
    have f_14 : R 0 0 0 := ⟨by decide, by decide⟩
    exact hp _ (R_w f_14 (by decide))
  · have f_15 : R 0 60 (mI h 3 0) := GI_rd ok.1 3 _ (by decide)
    have f_16 : R 0 0 0 := ⟨by decide, by decide⟩
    have f_17 : R 0 0 (mI h 3 0) := rf_eq f_16 c_10
    have f_18 : R 1 1 1 := ⟨by decide, by decide⟩
    exact hp _ (R_w f_18 (by decide))
set_option maxRecDepth 100000 in
set_option maxHeartbeats 4000000 in
theorem s_X10_share {g : gT} {h : mh_T} {P : Int32 → mh_T → Prop} (l1 : Int32) (hG : GI h)  (hp : ∀ (r : Int32) h', Ok [0, 5, 6, 29, 30] h h' → ¬ mI h' 0 11 = 4 → P r h') : MCi g yX10_share uX10_share [.ref 0, .int l1] h P := by
  have ok : Ok [0, 5, 6, 29, 30] h h := Ok_rf hG
  refine e_X10_share l1  ?_
  refine s_X10_noBook ok.1 (fun r2 f_15 => ?_)
  refine ⟨fun c_16 => ?_, fun c_16 => ?_⟩
  · have f_17 : R 0 0 0 := ⟨by decide, by decide⟩
    have f_18 : R 0 0 r2 := rf_eq f_17 c_16
    refine s_X0_findShare ok.1 (fun h4 ko_19 => ?_)
    have ok_20 := Ok_tr ok ko_19 (by decide)
    refine s_X2_part l1 ok_20.1 (fun r6 => ?_)
    refine s_X10_told r6 ok_20.1 (fun r8 h7 ko_21 tq => ?_)
    have ok_22 := Ok_tr ok_20 ko_21 (by decide)
    have f_23 : R (-2147483648) 2147483647 r8 := R_full _
    exact hp _ _ ok_22 (by first | exact tq | exact tq (by decide) | (rw [mI_wI, if_pos ⟨rfl, rfl⟩]; decide)) 
  · have f_24 : R 0 0 0 := ⟨by decide, by decide⟩
    have f_25 : R 1 1 r2 := rf_ne_lo f_15 c_16 (by decide) 1 rfl
    refine s_X10_refused 1 ok.1 (fun r10 h9 ko_26 f_28 tq => ?_)
    have ok_27 := Ok_tr ok ko_26 (by decide)
    exact hp _ _ ok_27 (by first | exact tq | exact tq (by decide) | (rw [mI_wI, if_pos ⟨rfl, rfl⟩]; decide)) 
set_option maxRecDepth 100000 in
set_option maxHeartbeats 4000000 in
theorem s_X10_isBit {g : gT} {h : mh_T} {P : Int32 → mh_T → Prop} (l0 : Int32) (hG : GI h)  (hp : ∀ r : Int32, R 0 1 r → P r h) : MCi g yX10_isBit uX10_isBit [.int l0] h P := by
  have ok : Ok [] h h := Ok_rf hG
  refine e_X10_isBit l0  ?_
  refine ⟨fun c_12 => ?_, fun c_12 => ?_⟩
  · have f_13 : R 0 0 0 := ⟨by decide, by decide⟩
    have f_14 : R 0 0 l0 := rf_eq f_13 c_12
    have f_15 : R 1 1 1 := ⟨by decide, by decide⟩
    exact hp _ (R_w f_15 (by decide))
  · have f_16 : R 0 0 0 := ⟨by decide, by decide⟩
    refine ⟨fun c_17 => ?_, fun c_17 => ?_⟩
    · have f_18 : R 1 1 1 := ⟨by decide, by decide⟩
      have f_19 : R 0 0 0 := ⟨by decide, by decide⟩
      exact hp _ (R_w f_19 (by decide))
    · have f_20 : R 1 1 1 := ⟨by decide, by decide⟩
      have f_21 : R 1 1 l0 := rf_eq f_20 c_17
      have f_22 : R 1 1 1 := ⟨by decide, by decide⟩
      exact hp _ (R_w f_22 (by decide))
set_option maxRecDepth 100000 in
set_option maxHeartbeats 4000000 in
theorem s_X10_together {g : gT} {h : mh_T} {P : Int32 → mh_T → Prop} (l1 : Int32) (l2 : Int32) (l3 : Int32) (l4 : Int32) (l5 : Int32) (l6 : Int32) (hG : GI h)  (hp : ∀ (r : Int32) h', Ok [0, 5, 6, 29, 30] h h' → ¬ mI h' 0 11 = 4 → P r h') : MCi g yX10_together uX10_together [.ref 0, .int l1, .int l2, .int l3, .int l4, .int l5, .int l6] h P := by
  have ok : Ok [0, 5, 6, 29, 30] h h := Ok_rf hG
  refine e_X10_together l1 l2 l3 l4 l5 l6  ?_
  refine s_X8_hasLook l1 ok.1 (fun r2 f_62 im_61 => ?_)
  refine ⟨fun c_63 => ?_, fun c_63 => ?_⟩
  · have f_64 : R 0 0 0 := ⟨by decide, by decide⟩
    have f_65 : R 0 0 r2 := rf_eq f_64 c_63
    refine s_X10_refused 1 ok.1 (fun r5 h4 ko_66 f_68 tq => ?_)
    have ok_67 := Ok_tr ok ko_66 (by decide)
    exact hp _ _ ok_67 (by first | exact tq | exact tq (by decide) | (rw [mI_wI, if_pos ⟨rfl, rfl⟩]; decide)) 
  · have f_69 : R 0 0 0 := ⟨by decide, by decide⟩
    have f_70 := (im_61 c_63)
    have f_71 : R 1 1 r2 := rf_ne_lo f_62 c_63 (by decide) 1 rfl
    refine s_X8_hasLook l3 ok.1 (fun r7 f_73 im_72 => ?_)
    refine ⟨fun c_74 => ?_, fun c_74 => ?_⟩
    · have f_75 : R 0 0 0 := ⟨by decide, by decide⟩
      have f_76 : R 0 0 r7 := rf_eq f_75 c_74
      refine s_X10_refused 1 ok.1 (fun r10 h9 ko_77 f_79 tq => ?_)
      have ok_78 := Ok_tr ok ko_77 (by decide)
      exact hp _ _ ok_78 (by first | exact tq | exact tq (by decide) | (rw [mI_wI, if_pos ⟨rfl, rfl⟩]; decide)) 
    · have f_80 : R 0 0 0 := ⟨by decide, by decide⟩
      have f_81 := (im_72 c_74)
      have f_82 : R 1 1 r7 := rf_ne_lo f_73 c_74 (by decide) 1 rfl
      refine ⟨fun c_83 => ?_, fun c_83 => ?_⟩
      · refine s_X10_refused 1 ok.1 (fun r13 h12 ko_84 f_86 tq => ?_)
        have ok_85 := Ok_tr ok ko_84 (by decide)
        exact hp _ _ ok_85 (by first | exact tq | exact tq (by decide) | (rw [mI_wI, if_pos ⟨rfl, rfl⟩]; decide)) 
      · refine s_X10_isBit l2 ok.1 (fun r15 f_87 => ?_)
        refine ⟨fun c_88 => ?_, fun c_88 => ?_⟩
        · have f_89 : R 0 0 0 := ⟨by decide, by decide⟩
          have f_90 : R 0 0 r15 := rf_eq f_89 c_88
          refine s_X10_refused 1 ok.1 (fun r18 h17 ko_91 f_93 tq => ?_)
          have ok_92 := Ok_tr ok ko_91 (by decide)
          exact hp _ _ ok_92 (by first | exact tq | exact tq (by decide) | (rw [mI_wI, if_pos ⟨rfl, rfl⟩]; decide)) 
        · have f_94 : R 0 0 0 := ⟨by decide, by decide⟩
          have f_95 : R 1 1 r15 := rf_ne_lo f_87 c_88 (by decide) 1 rfl
          refine s_X10_isBit l4 ok.1 (fun r20 f_96 => ?_)
          refine ⟨fun c_97 => ?_, fun c_97 => ?_⟩
          · have f_98 : R 0 0 0 := ⟨by decide, by decide⟩
            have f_99 : R 1 1 r20 := rf_ne_lo f_96 c_97 (by decide) 1 rfl
            refine s_X0_isMixed ok.1 (fun r23 h22 ko_100 f_102 => ?_)
            have ok_101 := Ok_tr ok ko_100 (by decide)
            refine ⟨fun c_103 => ?_, fun c_103 => ?_⟩
            · have f_104 : R 0 0 0 := ⟨by decide, by decide⟩
              have f_105 : R 1 1 r23 := rf_ne_lo f_102 c_103 (by decide) 1 rfl
              refine s_X0_findTogether ((1 <<< (l1 &&& 31)) ||| (1 <<< (l3 &&& 31))) ((l2 <<< (l1 &&& 31)) ||| (l4 <<< (l3 &&& 31))) l5 ok_101.1 (fun h25 ko_106 => ?_)
              have ok_107 := Ok_tr ok_101 ko_106 (by decide)
              refine s_X2_part l6 ok_107.1 (fun r27 => ?_)
              refine s_X10_told r27 ok_107.1 (fun r29 h28 ko_108 tq => ?_)
              have ok_109 := Ok_tr ok_107 ko_108 (by decide)
              have f_110 : R (-2147483648) 2147483647 r29 := R_full _
              exact hp _ _ ok_109 (by first | exact tq | exact tq (by decide) | (rw [mI_wI, if_pos ⟨rfl, rfl⟩]; decide)) 
            · have f_111 : R 0 0 0 := ⟨by decide, by decide⟩
              have f_112 : R 0 0 r23 := rf_eq f_111 c_103
              refine s_X10_refused 6 ok_101.1 (fun r31 h30 ko_113 f_115 tq => ?_)
              have ok_114 := Ok_tr ok_101 ko_113 (by decide)
              exact hp _ _ ok_114 (by first | exact tq | exact tq (by decide) | (rw [mI_wI, if_pos ⟨rfl, rfl⟩]; decide)) 
          · have f_116 : R 0 0 0 := ⟨by decide, by decide⟩
            have f_117 : R 0 0 r20 := rf_eq f_116 c_97
            refine s_X10_refused 1 ok.1 (fun r33 h32 ko_118 f_120 tq => ?_)
            have ok_119 := Ok_tr ok ko_118 (by decide)
            exact hp _ _ ok_119 (by first | exact tq | exact tq (by decide) | (rw [mI_wI, if_pos ⟨rfl, rfl⟩]; decide)) 
set_option maxRecDepth 100000 in
set_option maxHeartbeats 4000000 in
theorem s_X10_extend {g : gT} {h : mh_T} {P : Int32 → mh_T → Prop} (l1 : Int32) (l2 : Int32) (hG : GI h)  (hp : ∀ (r : Int32) h', Ok [0] h h' → ¬ mI h' 0 11 = 4 → P r h') : MCi g yX10_extend uX10_extend [.ref 0, .int l1, .int l2] h P := by
  have ok : Ok [0] h h := Ok_rf hG
  refine e_X10_extend l1 l2  ?_
  refine s_X8_hasOutcome l1 l2 ok.1 (fun r2 f_17 im_16 => ?_)
  refine ⟨fun c_18 => ?_, fun c_18 => ?_⟩
  · have f_19 : R 0 0 0 := ⟨by decide, by decide⟩
    have f_20 := (im_16 c_18).1
    have f_21 := (im_16 c_18).2
    have f_22 : R 1 1 r2 := rf_ne_lo f_17 c_18 (by decide) 1 rfl
    refine s_X8_extending ok.1 (fun r5 => ?_)
    refine s_X10_told (((r5.toUInt32 >>> (((4 * l1) + l2).toUInt32 &&& Int32.toUInt32 31)).toInt32) &&& 1) ok.1 (fun r7 h6 ko_23 tq => ?_)
    have ok_24 := Ok_tr ok ko_23 (by decide)
    have f_25 : R (-2147483648) 2147483647 r7 := R_full _
    exact hp _ _ ok_24 (by first | exact tq | exact tq (by decide) | (rw [mI_wI, if_pos ⟨rfl, rfl⟩]; decide)) 
  · have f_26 : R 0 0 0 := ⟨by decide, by decide⟩
    have f_27 : R 0 0 r2 := rf_eq f_26 c_18
    refine s_X10_refused 1 ok.1 (fun r9 h8 ko_28 f_30 tq => ?_)
    have ok_29 := Ok_tr ok ko_28 (by decide)
    exact hp _ _ ok_29 (by first | exact tq | exact tq (by decide) | (rw [mI_wI, if_pos ⟨rfl, rfl⟩]; decide)) 
set_option maxRecDepth 100000 in
set_option maxHeartbeats 4000000 in
theorem s_X10_level {g : gT} {h : mh_T} {P : Int32 → mh_T → Prop}  (hG : GI h)  (hp : ∀ (r : Int32) h', Ok [0, 6, 29, 30] h h' → ¬ mI h' 0 11 = 4 → P r h') : MCi g yX10_level uX10_level [.ref 0] h P := by
  have ok : Ok [0, 6, 29, 30] h h := Ok_rf hG
  refine e_X10_level   ?_
  refine s_X10_noBook ok.1 (fun r2 f_39 => ?_)
  refine ⟨fun c_40 => ?_, fun c_40 => ?_⟩
  · have f_41 : R 0 0 0 := ⟨by decide, by decide⟩
    have f_42 : R 0 0 r2 := rf_eq f_41 c_40
    refine s_X0_isMixed ok.1 (fun r5 h4 ko_43 f_45 => ?_)
    have ok_44 := Ok_tr ok ko_43 (by decide)
    refine ⟨fun c_46 => ?_, fun c_46 => ?_⟩
    · have f_47 : R 0 0 0 := ⟨by decide, by decide⟩
      have f_48 : R 0 0 r5 := rf_eq f_47 c_46
      refine s_X8_possible ok_44.1 (fun r8 => ?_)
      refine s_X8_extending ok_44.1 (fun r10 => ?_)
      intro x11 ex11
      have f_50 : R (-2147483648) 2147483647 r10 := R_full _
      have f_51 : R (-2147483648) 2147483647 r8 := R_full _
      have f_49 : R (-2147483648) 2147483647 (r8 &&& r10) := R_full _
      have f_52 : R (-2147483648) 2147483647 x11 := rf_eq f_49 ex11
      refine ⟨fun c_53 => ?_, fun c_53 => ?_⟩
      · refine ⟨fun c_54 => ?_, fun c_54 => ?_⟩
        · have f_55 : R 0 0 0 := ⟨by decide, by decide⟩
          have f_56 : R 0 0 x11 := rf_eq f_55 c_54
          refine s_X10_told 3 ok_44.1 (fun r15 h14 ko_57 tq => ?_)
          have ok_58 := Ok_tr ok_44 ko_57 (by decide)
          have f_59 : R (-2147483648) 2147483647 r15 := R_full _
          exact hp _ _ ok_58 (by first | exact tq | exact tq (by decide) | (rw [mI_wI, if_pos ⟨rfl, rfl⟩]; decide)) 
        · have f_60 : R 0 0 0 := ⟨by decide, by decide⟩
          refine s_X10_told 2 ok_44.1 (fun r17 h16 ko_61 tq => ?_)
          have ok_62 := Ok_tr ok_44 ko_61 (by decide)
          have f_63 : R (-2147483648) 2147483647 r17 := R_full _
          exact hp _ _ ok_62 (by first | exact tq | exact tq (by decide) | (rw [mI_wI, if_pos ⟨rfl, rfl⟩]; decide)) 
      · refine s_X10_told 1 ok_44.1 (fun r19 h18 ko_64 tq => ?_)
        have ok_65 := Ok_tr ok_44 ko_64 (by decide)
        have f_66 : R (-2147483648) 2147483647 r19 := R_full _
        exact hp _ _ ok_65 (by first | exact tq | exact tq (by decide) | (rw [mI_wI, if_pos ⟨rfl, rfl⟩]; decide)) 
    · have f_67 : R 0 0 0 := ⟨by decide, by decide⟩
      have f_68 : R 1 1 r5 := rf_ne_lo f_45 c_46 (by decide) 1 rfl
      refine s_X10_told 0 ok_44.1 (fun r21 h20 ko_69 tq => ?_)
      have ok_70 := Ok_tr ok_44 ko_69 (by decide)
      have f_71 : R (-2147483648) 2147483647 r21 := R_full _
      exact hp _ _ ok_70 (by first | exact tq | exact tq (by decide) | (rw [mI_wI, if_pos ⟨rfl, rfl⟩]; decide)) 
  · have f_72 : R 0 0 0 := ⟨by decide, by decide⟩
    have f_73 : R 1 1 r2 := rf_ne_lo f_39 c_40 (by decide) 1 rfl
    refine s_X10_refused 1 ok.1 (fun r23 h22 ko_74 f_76 tq => ?_)
    have ok_75 := Ok_tr ok ko_74 (by decide)
    exact hp _ _ ok_75 (by first | exact tq | exact tq (by decide) | (rw [mI_wI, if_pos ⟨rfl, rfl⟩]; decide)) 
set_option maxRecDepth 100000 in
set_option maxHeartbeats 4000000 in
theorem s_X10_hidden {g : gT} {h : mh_T} {P : Int32 → mh_T → Prop}  (hG : GI h)  (hp : ∀ (r : Int32) h', Ok [0] h h' → ¬ mI h' 0 11 = 4 → P r h') : MCi g yX10_hidden uX10_hidden [.ref 0] h P := by
  have ok : Ok [0] h h := Ok_rf hG
  refine e_X10_hidden   ?_
  refine s_X10_noBook ok.1 (fun r2 f_13 => ?_)
  refine ⟨fun c_14 => ?_, fun c_14 => ?_⟩
  · have f_15 : R 0 0 0 := ⟨by decide, by decide⟩
    have f_16 : R 0 0 r2 := rf_eq f_15 c_14
    refine s_X8_fitting ok.1 (fun r5 => ?_)
    refine s_X10_told r5 ok.1 (fun r7 h6 ko_17 tq => ?_)
    have ok_18 := Ok_tr ok ko_17 (by decide)
    have f_19 : R (-2147483648) 2147483647 r7 := R_full _
    exact hp _ _ ok_18 (by first | exact tq | exact tq (by decide) | (rw [mI_wI, if_pos ⟨rfl, rfl⟩]; decide)) 
  · have f_20 : R 0 0 0 := ⟨by decide, by decide⟩
    have f_21 : R 1 1 r2 := rf_ne_lo f_13 c_14 (by decide) 1 rfl
    refine s_X10_refused 1 ok.1 (fun r9 h8 ko_22 f_24 tq => ?_)
    have ok_23 := Ok_tr ok ko_22 (by decide)
    exact hp _ _ ok_23 (by first | exact tq | exact tq (by decide) | (rw [mI_wI, if_pos ⟨rfl, rfl⟩]; decide)) 
set_option maxRecDepth 100000 in
set_option maxHeartbeats 4000000 in
theorem s_X10_answer {g : gT} {h : mh_T} {P : Int32 → mh_T → Prop} (l1 : Int32) (hG : GI h)  (hp : ∀ (r : Int32) h', Ok [0] h h' → ¬ mI h' 0 11 = 4 → P r h') : MCi g yX10_answer uX10_answer [.ref 0, .int l1] h P := by
  have ok : Ok [0] h h := Ok_rf hG
  refine e_X10_answer l1  ?_
  refine s_X10_noBook ok.1 (fun r2 f_22 => ?_)
  refine ⟨fun c_23 => ?_, fun c_23 => ?_⟩
  · have f_24 : R 0 0 0 := ⟨by decide, by decide⟩
    have f_25 : R 0 0 r2 := rf_eq f_24 c_23
    refine s_X8_fittingAt l1 ok.1 (fun r5 f_26 => ?_)
    refine ⟨fun c_27 => ?_, fun c_27 => ?_⟩
    · have f_28 : R 0 0 0 := ⟨by decide, by decide⟩
      have f_29 : R 0 63 r5 := rf_le_r f_28 f_26 c_27 0 (by decide)
      refine s_X10_told r5 ok.1 (fun r8 h7 ko_30 tq => ?_)
      have ok_31 := Ok_tr ok ko_30 (by decide)
      have f_32 : R (-2147483648) 2147483647 r8 := R_full _
      exact hp _ _ ok_31 (by first | exact tq | exact tq (by decide) | (rw [mI_wI, if_pos ⟨rfl, rfl⟩]; decide)) 
    · have f_33 : R 0 0 0 := ⟨by decide, by decide⟩
      have f_34 : R (-1) (-1) r5 := rf_lt_l f_26 f_33 (nle c_27) (-1) (by decide)
      refine s_X10_refused 1 ok.1 (fun r10 h9 ko_35 f_37 tq => ?_)
      have ok_36 := Ok_tr ok ko_35 (by decide)
      exact hp _ _ ok_36 (by first | exact tq | exact tq (by decide) | (rw [mI_wI, if_pos ⟨rfl, rfl⟩]; decide)) 
  · have f_38 : R 0 0 0 := ⟨by decide, by decide⟩
    have f_39 : R 1 1 r2 := rf_ne_lo f_22 c_23 (by decide) 1 rfl
    refine s_X10_refused 1 ok.1 (fun r13 h12 ko_40 f_42 tq => ?_)
    have ok_41 := Ok_tr ok ko_40 (by decide)
    exact hp _ _ ok_41 (by first | exact tq | exact tq (by decide) | (rw [mI_wI, if_pos ⟨rfl, rfl⟩]; decide)) 
set_option maxRecDepth 100000 in
set_option maxHeartbeats 4000000 in
theorem s_X10_disturbed {g : gT} {h : mh_T} {P : Int32 → mh_T → Prop}  (hG : GI h)  (hp : ∀ (r : Int32) h', Ok [0] h h' → ¬ mI h' 0 11 = 4 → P r h') : MCi g yX10_disturbed uX10_disturbed [.ref 0] h P := by
  have ok : Ok [0] h h := Ok_rf hG
  refine e_X10_disturbed   ?_
  refine s_X10_noBook ok.1 (fun r2 f_14 => ?_)
  refine ⟨fun c_15 => ?_, fun c_15 => ?_⟩
  · have f_16 : R 0 0 0 := ⟨by decide, by decide⟩
    have f_17 : R 0 0 r2 := rf_eq f_16 c_15
    refine s_X8_firstDisturbed ok.1 (fun r5 f_18 => ?_)
    refine s_X10_told r5 ok.1 (fun r7 h6 ko_19 tq => ?_)
    have ok_20 := Ok_tr ok ko_19 (by decide)
    have f_21 : R (-2147483648) 2147483647 r7 := R_full _
    exact hp _ _ ok_20 (by first | exact tq | exact tq (by decide) | (rw [mI_wI, if_pos ⟨rfl, rfl⟩]; decide)) 
  · have f_22 : R 0 0 0 := ⟨by decide, by decide⟩
    have f_23 : R 1 1 r2 := rf_ne_lo f_14 c_15 (by decide) 1 rfl
    refine s_X10_refused 1 ok.1 (fun r9 h8 ko_24 f_26 tq => ?_)
    have ok_25 := Ok_tr ok ko_24 (by decide)
    exact hp _ _ ok_25 (by first | exact tq | exact tq (by decide) | (rw [mI_wI, if_pos ⟨rfl, rfl⟩]; decide)) 


