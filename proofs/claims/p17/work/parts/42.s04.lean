set_option maxRecDepth 100000 in
set_option maxHeartbeats 4000000 in
theorem s_X10_same {g : gT} {h : mh_T} {P : Int32 → mh_T → Prop} (l1 : Int32) (hG : GI h)  (hp : ∀ (r : Int32) h', Ok [0] h h' → ¬ mI h' 0 11 = 4 → P r h') : MCi g yX10_same uX10_same [.ref 0, .int l1] h P := by
  have ok : Ok [0] h h := Ok_rf hG
  refine e_X10_same l1  ?_
  refine s_X8_hasPair l1 ok.1 (fun r2 f_16 im_15 => ?_)
  refine ⟨fun c_17 => ?_, fun c_17 => ?_⟩
  · have f_18 : R 0 0 0 := ⟨by decide, by decide⟩
    have f_19 := (im_15 c_17)
    have f_20 : R 1 1 r2 := rf_ne_lo f_16 c_17 (by decide) 1 rfl
    refine s_X8_alike l1 ok.1 (R_w f_19 (by decide)) (fun r5 => ?_)
    refine s_X10_told r5 ok.1 (fun r7 h6 ko_21 tq => ?_)
    have ok_22 := Ok_tr ok ko_21 (by decide)
    have f_23 : R (-2147483648) 2147483647 r7 := R_full _
    exact hp _ _ ok_22 (by first | exact tq | exact tq (by decide) | (rw [mI_wI, if_pos ⟨rfl, rfl⟩]; decide)) 
  · have f_24 : R 0 0 0 := ⟨by decide, by decide⟩
    have f_25 : R 0 0 r2 := rf_eq f_24 c_17
    have f_26 : R 1 1 1 := ⟨by decide, by decide⟩
    have ok_27 := Ok_w ok (k := 0) (j := 11) (v := 1) (lo := (-2147483648)) (hi := 2147483647) (by decide) (R_w f_26 (by decide)) (by decide) (by decide)
    have f_28 : R (-1000) (-1000) (-1000) := ⟨by decide, by decide⟩
    exact hp _ _ ok_27 (by first | exact tq | exact tq (by decide) | (rw [mI_wI, if_pos ⟨rfl, rfl⟩]; decide)) 
set_option maxRecDepth 100000 in
set_option maxHeartbeats 4000000 in
theorem s_X10_cycles {g : gT} {h : mh_T} {P : Int32 → mh_T → Prop}  (hG : GI h)  (hp : ∀ (r : Int32) h', Ok [0] h h' → ¬ mI h' 0 11 = 4 → P r h') : MCi g yX10_cycles uX10_cycles [.ref 0] h P := by
  have ok : Ok [0] h h := Ok_rf hG
  refine e_X10_cycles   ?_
  refine s_X10_noBook ok.1 (fun r2 f_13 => ?_)
  refine ⟨fun c_14 => ?_, fun c_14 => ?_⟩
  · have f_15 : R 0 0 0 := ⟨by decide, by decide⟩
    have f_16 : R 0 0 r2 := rf_eq f_15 c_14
    refine s_X7_number ok.1 (fun r5 => ?_)
    refine s_X10_told r5 ok.1 (fun r7 h6 ko_17 tq => ?_)
    have ok_18 := Ok_tr ok ko_17 (by decide)
    have f_19 : R (-2147483648) 2147483647 r7 := R_full _
    exact hp _ _ ok_18 (by first | exact tq | exact tq (by decide) | (rw [mI_wI, if_pos ⟨rfl, rfl⟩]; decide)) 
  · have f_20 : R 0 0 0 := ⟨by decide, by decide⟩
    have f_21 : R 1 1 r2 := rf_ne_lo f_13 c_14 (by decide) 1 rfl
    refine s_X10_refused 1 ok.1 (fun r9 h8 ko_22 f_24 tq => ?_)
    have ok_23 := Ok_tr ok ko_22 (by decide)
    exact hp _ _ ok_23 (by first | exact tq | exact tq (by decide) | (rw [mI_wI, if_pos ⟨rfl, rfl⟩]; decide)) 
set_option maxRecDepth 100000 in
set_option maxHeartbeats 4000000 in
theorem s_X10_cycle {g : gT} {h : mh_T} {P : Int32 → mh_T → Prop} (l1 : Int32) (hG : GI h)  (hp : ∀ (r : Int32) h', Ok [0] h h' → ¬ mI h' 0 11 = 4 → P r h') : MCi g yX10_cycle uX10_cycle [.ref 0, .int l1] h P := by
  have ok : Ok [0] h h := Ok_rf hG
  refine e_X10_cycle l1  ?_
  refine s_X10_noBook ok.1 (fun r2 f_22 => ?_)
  refine ⟨fun c_23 => ?_, fun c_23 => ?_⟩
  · have f_24 : R 0 0 0 := ⟨by decide, by decide⟩
    have f_25 : R 0 0 r2 := rf_eq f_24 c_23
    refine s_X7_ringAt l1 ok.1 (fun r5 f_26 => ?_)
    refine ⟨fun c_27 => ?_, fun c_27 => ?_⟩
    · have f_28 : R 0 0 0 := ⟨by decide, by decide⟩
      have f_29 : R 0 255 r5 := rf_le_r f_28 f_26 c_27 0 (by decide)
      refine s_X10_told r5 ok.1 (fun r8 h7 ko_30 tq => ?_)
      have ok_31 := Ok_tr ok ko_30 (by decide)
      have f_32 : R (-2147483648) 2147483647 r8 := R_full _
      exact hp _ _ ok_31 (by first | exact tq | exact tq (by decide) | (rw [mI_wI, if_pos ⟨rfl, rfl⟩]; decide)) 
    · have f_33 : R 0 0 0 := ⟨by decide, by decide⟩
      have f_34 : R (-1) (-1) r5 := rf_lt_l f_26 f_33 (nle c_27) (-1) (by decide)
      refine s_X10_refused 1 ok.1 (fun r10 h9 ko_35 f_37 tq => ?_)
      have ok_36 := Ok_tr ok ko_35 (by decide)
      exact hp _ _ ok_36 (by first | exact tq | exact tq (by decide) | (rw [mI_wI, if_pos ⟨rfl, rfl⟩]; decide)) 
  · have f_38 : R 0 0 0 := ⟨by decide, by decide⟩
    have f_39 : R 1 1 r2 := rf_ne_lo f_22 c_23 (by decide) 1 rfl
    refine s_X10_refused 1 ok.1 (fun r13 h12 ko_40 f_42 tq => ?_)
    have ok_41 := Ok_tr ok ko_40 (by decide)
    exact hp _ _ ok_41 (by first | exact tq | exact tq (by decide) | (rw [mI_wI, if_pos ⟨rfl, rfl⟩]; decide)) 
set_option maxRecDepth 100000 in
set_option maxHeartbeats 4000000 in
theorem s_X10_excess {g : gT} {h : mh_T} {P : Int32 → mh_T → Prop} (l1 : Int32) (hG : GI h)  (hp : ∀ (r : Int32) h', Ok [0] h h' → ¬ mI h' 0 11 = 4 → P r h') : MCi g yX10_excess uX10_excess [.ref 0, .int l1] h P := by
  have ok : Ok [0] h h := Ok_rf hG
  refine e_X10_excess l1  ?_
  refine s_X10_noBook ok.1 (fun r2 f_22 => ?_)
  refine ⟨fun c_23 => ?_, fun c_23 => ?_⟩
  · have f_24 : R 0 0 0 := ⟨by decide, by decide⟩
    have f_25 : R 0 0 r2 := rf_eq f_24 c_23
    refine s_X7_isRing l1 ok.1 (fun r5 f_26 => ?_)
    refine ⟨fun c_27 => ?_, fun c_27 => ?_⟩
    · have f_28 : R 0 0 0 := ⟨by decide, by decide⟩
      have f_29 : R 1 1 r5 := rf_ne_lo f_26 c_27 (by decide) 1 rfl
      refine s_X7_surplus l1 ok.1 (fun r8 => ?_)
      refine s_X10_told r8 ok.1 (fun r10 h9 ko_30 tq => ?_)
      have ok_31 := Ok_tr ok ko_30 (by decide)
      have f_32 : R (-2147483648) 2147483647 r10 := R_full _
      exact hp _ _ ok_31 (by first | exact tq | exact tq (by decide) | (rw [mI_wI, if_pos ⟨rfl, rfl⟩]; decide)) 
    · have f_33 : R 0 0 0 := ⟨by decide, by decide⟩
      have f_34 : R 0 0 r5 := rf_eq f_33 c_27
      have f_35 : R 5 5 5 := ⟨by decide, by decide⟩
      have ok_36 := Ok_w ok (k := 0) (j := 11) (v := 5) (lo := (-2147483648)) (hi := 2147483647) (by decide) (R_w f_35 (by decide)) (by decide) (by decide)
      have f_37 : R (-1000) (-1000) (-1000) := ⟨by decide, by decide⟩
      exact hp _ _ ok_36 (by first | exact tq | exact tq (by decide) | (rw [mI_wI, if_pos ⟨rfl, rfl⟩]; decide)) 
  · have f_38 : R 0 0 0 := ⟨by decide, by decide⟩
    have f_39 : R 1 1 r2 := rf_ne_lo f_22 c_23 (by decide) 1 rfl
    have f_40 : R 1 1 1 := ⟨by decide, by decide⟩
    have ok_41 := Ok_w ok (k := 0) (j := 11) (v := 1) (lo := (-2147483648)) (hi := 2147483647) (by decide) (R_w f_40 (by decide)) (by decide) (by decide)
    have f_42 : R (-1000) (-1000) (-1000) := ⟨by decide, by decide⟩
    exact hp _ _ ok_41 (by first | exact tq | exact tq (by decide) | (rw [mI_wI, if_pos ⟨rfl, rfl⟩]; decide)) 
set_option maxRecDepth 100000 in
set_option maxHeartbeats 4000000 in
theorem s_X10_wins {g : gT} {h : mh_T} {P : Int32 → mh_T → Prop}  (hG : GI h)  (hp : ∀ (r : Int32) h', Ok [0] h h' → ¬ mI h' 0 11 = 4 → P r h') : MCi g yX10_wins uX10_wins [.ref 0] h P := by
  have ok : Ok [0] h h := Ok_rf hG
  refine e_X10_wins   ?_
  refine s_X10_noBook ok.1 (fun r2 f_13 => ?_)
  refine ⟨fun c_14 => ?_, fun c_14 => ?_⟩
  · have f_15 : R 0 0 0 := ⟨by decide, by decide⟩
    have f_16 : R 0 0 r2 := rf_eq f_15 c_14
    refine s_X8_winnings ok.1 (fun r5 => ?_)
    refine s_X10_told r5 ok.1 (fun r7 h6 ko_17 tq => ?_)
    have ok_18 := Ok_tr ok ko_17 (by decide)
    have f_19 : R (-2147483648) 2147483647 r7 := R_full _
    exact hp _ _ ok_18 (by first | exact tq | exact tq (by decide) | (rw [mI_wI, if_pos ⟨rfl, rfl⟩]; decide)) 
  · have f_20 : R 0 0 0 := ⟨by decide, by decide⟩
    have f_21 : R 1 1 r2 := rf_ne_lo f_13 c_14 (by decide) 1 rfl
    refine s_X10_refused 1 ok.1 (fun r9 h8 ko_22 f_24 tq => ?_)
    have ok_23 := Ok_tr ok ko_22 (by decide)
    exact hp _ _ ok_23 (by first | exact tq | exact tq (by decide) | (rw [mI_wI, if_pos ⟨rfl, rfl⟩]; decide)) 
set_option maxRecDepth 100000 in
set_option maxHeartbeats 4000000 in
theorem s_X10_worst {g : gT} {h : mh_T} {P : Int32 → mh_T → Prop}  (hG : GI h)  (hp : ∀ (r : Int32) h', Ok [0] h h' → ¬ mI h' 0 11 = 4 → P r h') : MCi g yX10_worst uX10_worst [.ref 0] h P := by
  have ok : Ok [0] h h := Ok_rf hG
  refine e_X10_worst   ?_
  refine s_X10_noBook ok.1 (fun r2 f_14 => ?_)
  refine ⟨fun c_15 => ?_, fun c_15 => ?_⟩
  · have f_16 : R 0 0 0 := ⟨by decide, by decide⟩
    have f_17 : R 0 0 r2 := rf_eq f_16 c_15
    refine s_X8_leastPaid ok.1 (fun r5 f_18 => ?_)
    refine s_X8_pay r5 ok.1 (fun r7 => ?_)
    refine s_X10_told r7 ok.1 (fun r9 h8 ko_19 tq => ?_)
    have ok_20 := Ok_tr ok ko_19 (by decide)
    have f_21 : R (-2147483648) 2147483647 r9 := R_full _
    exact hp _ _ ok_20 (by first | exact tq | exact tq (by decide) | (rw [mI_wI, if_pos ⟨rfl, rfl⟩]; decide)) 
  · have f_22 : R 0 0 0 := ⟨by decide, by decide⟩
    have f_23 : R 1 1 r2 := rf_ne_lo f_14 c_15 (by decide) 1 rfl
    refine s_X10_refused 1 ok.1 (fun r11 h10 ko_24 f_26 tq => ?_)
    have ok_25 := Ok_tr ok ko_24 (by decide)
    exact hp _ _ ok_25 (by first | exact tq | exact tq (by decide) | (rw [mI_wI, if_pos ⟨rfl, rfl⟩]; decide)) 
set_option maxRecDepth 100000 in
set_option maxHeartbeats 4000000 in
theorem s_X10_worstAt {g : gT} {h : mh_T} {P : Int32 → mh_T → Prop}  (hG : GI h)  (hp : ∀ (r : Int32) h', Ok [0] h h' → ¬ mI h' 0 11 = 4 → P r h') : MCi g yX10_worstAt uX10_worstAt [.ref 0] h P := by
  have ok : Ok [0] h h := Ok_rf hG
  refine e_X10_worstAt   ?_
  refine s_X10_noBook ok.1 (fun r2 f_14 => ?_)
  refine ⟨fun c_15 => ?_, fun c_15 => ?_⟩
  · have f_16 : R 0 0 0 := ⟨by decide, by decide⟩
    have f_17 : R 0 0 r2 := rf_eq f_16 c_15
    refine s_X8_leastPaid ok.1 (fun r5 f_18 => ?_)
    refine s_X10_told r5 ok.1 (fun r7 h6 ko_19 tq => ?_)
    have ok_20 := Ok_tr ok ko_19 (by decide)
    have f_21 : R (-2147483648) 2147483647 r7 := R_full _
    exact hp _ _ ok_20 (by first | exact tq | exact tq (by decide) | (rw [mI_wI, if_pos ⟨rfl, rfl⟩]; decide)) 
  · have f_22 : R 0 0 0 := ⟨by decide, by decide⟩
    have f_23 : R 1 1 r2 := rf_ne_lo f_14 c_15 (by decide) 1 rfl
    refine s_X10_refused 1 ok.1 (fun r9 h8 ko_24 f_26 tq => ?_)
    have ok_25 := Ok_tr ok ko_24 (by decide)
    exact hp _ _ ok_25 (by first | exact tq | exact tq (by decide) | (rw [mI_wI, if_pos ⟨rfl, rfl⟩]; decide)) 
set_option maxRecDepth 100000 in
set_option maxHeartbeats 4000000 in
theorem s_X10_bars {g : gT} {h : mh_T} {P : Int32 → mh_T → Prop}  (hG : GI h)  (hp : ∀ (r : Int32) h', Ok [0] h h' → ¬ mI h' 0 11 = 4 → P r h') : MCi g yX10_bars uX10_bars [.ref 0] h P := by
  have ok : Ok [0] h h := Ok_rf hG
  refine e_X10_bars   ?_
  refine s_X10_noBook ok.1 (fun r2 f_28 => ?_)
  refine ⟨fun c_29 => ?_, fun c_29 => ?_⟩
  · have f_30 : R 0 0 0 := ⟨by decide, by decide⟩
    have f_31 : R 0 0 r2 := rf_eq f_30 c_29
    refine s_X8_winnings ok.1 (fun r5 => ?_)
    refine s_X8_leastPaid ok.1 (fun r7 f_32 => ?_)
    refine s_X8_pay r7 ok.1 (fun r9 => ?_)
    refine ⟨fun c_33 => ?_, fun c_33 => ?_⟩
    · have f_34 : R (-2147483648) 2147483647 r5 := R_full _
      have f_36 : R (-2147483648) 2147483647 r9 := R_full _
      have f_37 : R 0 60 (mI h 3 0) := GI_rd ok.1 3 _ (by decide)
      have f_35 : R (-2147483648) 2147483647 (r9 * (mI h 3 0)) := R_full _
      refine s_X10_told 0 ok.1 (fun r12 h11 ko_38 tq => ?_)
      have ok_39 := Ok_tr ok ko_38 (by decide)
      have f_40 : R (-2147483648) 2147483647 r12 := R_full _
      exact hp _ _ ok_39 (by first | exact tq | exact tq (by decide) | (rw [mI_wI, if_pos ⟨rfl, rfl⟩]; decide)) 
    · have f_41 : R (-2147483648) 2147483647 r5 := R_full _
      have f_43 : R (-2147483648) 2147483647 r9 := R_full _
      have f_44 : R 0 60 (mI h 3 0) := GI_rd ok.1 3 _ (by decide)
      have f_42 : R (-2147483648) 2147483647 (r9 * (mI h 3 0)) := R_full _
      have f_45 : R (-2147483648) 2147483646 r5 := rf_lt_l f_41 f_42 (nle c_33) 2147483646 (by decide)
      have f_46 : R (-2147483647) 2147483647 (r9 * (mI h 3 0)) := rf_lt_r f_41 f_42 (nle c_33) (-2147483647) (by decide)
      refine s_X10_told 1 ok.1 (fun r14 h13 ko_47 tq => ?_)
      have ok_48 := Ok_tr ok ko_47 (by decide)
      have f_49 : R (-2147483648) 2147483647 r14 := R_full _
      exact hp _ _ ok_48 (by first | exact tq | exact tq (by decide) | (rw [mI_wI, if_pos ⟨rfl, rfl⟩]; decide)) 
  · have f_50 : R 0 0 0 := ⟨by decide, by decide⟩
    have f_51 : R 1 1 r2 := rf_ne_lo f_28 c_29 (by decide) 1 rfl
    refine s_X10_refused 1 ok.1 (fun r16 h15 ko_52 f_54 tq => ?_)
    have ok_53 := Ok_tr ok ko_52 (by decide)
    exact hp _ _ ok_53 (by first | exact tq | exact tq (by decide) | (rw [mI_wI, if_pos ⟨rfl, rfl⟩]; decide)) 
set_option maxRecDepth 100000 in
set_option maxHeartbeats 4000000 in
theorem s_X10_fair {g : gT} {h : mh_T} {P : Int32 → mh_T → Prop} (l1 : Int32) (hG : GI h)  (hp : ∀ (r : Int32) h', Ok [0, 5] h h' → ¬ mI h' 0 11 = 4 → P r h') : MCi g yX10_fair uX10_fair [.ref 0, .int l1] h P := by
  have ok : Ok [0, 5] h h := Ok_rf hG
  refine e_X10_fair l1  ?_
  refine s_X10_noBook ok.1 (fun r2 f_39 => ?_)
  refine ⟨fun c_40 => ?_, fun c_40 => ?_⟩
  · have f_41 : R 0 0 0 := ⟨by decide, by decide⟩
    have f_42 : R 0 0 r2 := rf_eq f_41 c_40
    refine s_X8_winnings ok.1 (fun r5 => ?_)
    refine s_X8_leastPaid ok.1 (fun r7 f_43 => ?_)
    refine s_X8_pay r7 ok.1 (fun r9 => ?_)
    intro x10 ex10
    have f_45 : R (-2147483648) 2147483647 r9 := R_full _
    have f_46 : R 0 60 (mI h 3 0) := GI_rd ok.1 3 _ (by decide)
    have f_44 : R (-2147483648) 2147483647 (r9 * (mI h 3 0)) := R_full _
    have f_47 : R (-2147483648) 2147483647 x10 := rf_eq f_44 ex10
    refine ⟨fun c_48 => ?_, fun c_48 => ?_⟩
    · have f_49 : R 0 0 0 := ⟨by decide, by decide⟩
      have f_50 : R 0 0 x10 := rf_eq f_49 c_48
      refine s_X2_set 1 1 ok.1 (fun h12 ko_51 => ?_)
      have ok_52 := Ok_tr ok ko_51 (by decide)
      refine s_X2_part l1 ok_52.1 (fun r14 => ?_)
      refine s_X10_told r14 ok_52.1 (fun r16 h15 ko_53 tq => ?_)
      have ok_54 := Ok_tr ok_52 ko_53 (by decide)
      have f_55 : R (-2147483648) 2147483647 r16 := R_full _
      exact hp _ _ ok_54 (by first | exact tq | exact tq (by decide) | (rw [mI_wI, if_pos ⟨rfl, rfl⟩]; decide)) 
    · have f_56 : R 0 0 0 := ⟨by decide, by decide⟩
      refine ⟨fun c_57 => ?_, fun c_57 => ?_⟩
      · have f_58 : R (-2147483648) 2147483647 r5 := R_full _
        refine s_X2_set (Int32.toInt64 r5) (Int32.toInt64 x10) ok.1 (fun h18 ko_59 => ?_)
        have ok_60 := Ok_tr ok ko_59 (by decide)
        refine s_X2_part l1 ok_60.1 (fun r20 => ?_)
        refine s_X10_told r20 ok_60.1 (fun r22 h21 ko_61 tq => ?_)
        have ok_62 := Ok_tr ok_60 ko_61 (by decide)
        have f_63 : R (-2147483648) 2147483647 r22 := R_full _
        exact hp _ _ ok_62 (by first | exact tq | exact tq (by decide) | (rw [mI_wI, if_pos ⟨rfl, rfl⟩]; decide)) 
      · have f_64 : R (-2147483648) 2147483647 r5 := R_full _
        have f_65 : R (-2147483648) 2147483646 x10 := rf_lt_l f_47 f_64 (nle c_57) 2147483646 (by decide)
        have f_66 : R (-2147483647) 2147483647 r5 := rf_lt_r f_47 f_64 (nle c_57) (-2147483647) (by decide)
        refine s_X2_set 1 1 ok.1 (fun h23 ko_67 => ?_)
        have ok_68 := Ok_tr ok ko_67 (by decide)
        refine s_X2_part l1 ok_68.1 (fun r25 => ?_)
        refine s_X10_told r25 ok_68.1 (fun r27 h26 ko_69 tq => ?_)
        have ok_70 := Ok_tr ok_68 ko_69 (by decide)
        have f_71 : R (-2147483648) 2147483647 r27 := R_full _
        exact hp _ _ ok_70 (by first | exact tq | exact tq (by decide) | (rw [mI_wI, if_pos ⟨rfl, rfl⟩]; decide)) 
  · have f_72 : R 0 0 0 := ⟨by decide, by decide⟩
    have f_73 : R 1 1 r2 := rf_ne_lo f_39 c_40 (by decide) 1 rfl
    refine s_X10_refused 1 ok.1 (fun r29 h28 ko_74 f_76 tq => ?_)
    have ok_75 := Ok_tr ok ko_74 (by decide)
    exact hp _ _ ok_75 (by first | exact tq | exact tq (by decide) | (rw [mI_wI, if_pos ⟨rfl, rfl⟩]; decide)) 
set_option maxRecDepth 100000 in
set_option maxHeartbeats 4000000 in
theorem s_X10_ways {g : gT} {h : mh_T} {P : Int32 → mh_T → Prop}  (hG : GI h)  (hp : ∀ (r : Int32) h', Ok [0] h h' → ¬ mI h' 0 11 = 4 → P r h') : MCi g yX10_ways uX10_ways [.ref 0] h P := by
  have ok : Ok [0] h h := Ok_rf hG
  refine e_X10_ways   ?_
  refine s_X10_noBook ok.1 (fun r2 f_13 => ?_)
  refine ⟨fun c_14 => ?_, fun c_14 => ?_⟩
  · have f_15 : R 0 0 0 := ⟨by decide, by decide⟩
    have f_16 : R 0 0 r2 := rf_eq f_15 c_14
    refine s_X10_told (mI h 7 2) ok.1 (fun r5 h4 ko_17 tq => ?_)
    have ok_18 := Ok_tr ok ko_17 (by decide)
    have f_19 : R (-2147483648) 2147483647 r5 := R_full _
    exact hp _ _ ok_18 (by first | exact tq | exact tq (by decide) | (rw [mI_wI, if_pos ⟨rfl, rfl⟩]; decide)) 
  · have f_20 : R 0 0 0 := ⟨by decide, by decide⟩
    have f_21 : R 1 1 r2 := rf_ne_lo f_13 c_14 (by decide) 1 rfl
    refine s_X10_refused 1 ok.1 (fun r7 h6 ko_22 f_24 tq => ?_)
    have ok_23 := Ok_tr ok ko_22 (by decide)
    exact hp _ _ ok_23 (by first | exact tq | exact tq (by decide) | (rw [mI_wI, if_pos ⟨rfl, rfl⟩]; decide)) 
set_option maxRecDepth 100000 in
set_option maxHeartbeats 4000000 in
theorem s_X10_forced {g : gT} {h : mh_T} {P : Int32 → mh_T → Prop} (l1 : Int32) (hG : GI h)  (hp : ∀ (r : Int32) h', Ok [0] h h' → ¬ mI h' 0 11 = 4 → P r h') : MCi g yX10_forced uX10_forced [.ref 0, .int l1] h P := by
  have ok : Ok [0] h h := Ok_rf hG
  refine e_X10_forced l1  ?_
  refine ⟨fun c_30 => ?_, fun c_30 => ?_⟩
  · have f_31 : R 0 0 0 := ⟨by decide, by decide⟩
    have f_32 : R (-2147483648) (-1) l1 := rf_lt_l (R_full l1) f_31 c_30 (-1) (by decide)
    refine s_X10_refused 1 ok.1 (fun r3 h2 ko_33 f_35 tq => ?_)
    have ok_34 := Ok_tr ok ko_33 (by decide)
    exact hp _ _ ok_34 (by first | exact tq | exact tq (by decide) | (rw [mI_wI, if_pos ⟨rfl, rfl⟩]; decide)) 
  · have f_36 : R 0 0 0 := ⟨by decide, by decide⟩
    have f_37 : R 0 2147483647 l1 := rf_le_r f_36 (R_full l1) (nlt c_30) 0 (by decide)
    refine ⟨fun c_38 => ?_, fun c_38 => ?_⟩
    · have f_39 : R 0 9 (mI h 7 0) := GI_rd ok.1 7 _ (by decide)
      have f_40 : R 0 8 l1 := rf_lt_l f_37 f_39 c_38 8 (by decide)
      have f_41 : R 1 9 (mI h 7 0) := rf_lt_r f_37 f_39 c_38 1 (by decide)
      refine ⟨fun c_42 => ?_, fun c_42 => ?_⟩
      · have f_43 : R (-2147483648) 2147483647 (mI h 7 2) := R_full _
        have f_44 : R 0 0 0 := ⟨by decide, by decide⟩
        refine s_X5_valueOf l1 ok.1 (fun r7 f_45 => ?_)
        refine s_X10_told r7 ok.1 (fun r9 h8 ko_46 tq => ?_)
        have ok_47 := Ok_tr ok ko_46 (by decide)
        have f_48 : R (-2147483648) 2147483647 r9 := R_full _
        exact hp _ _ ok_47 (by first | exact tq | exact tq (by decide) | (rw [mI_wI, if_pos ⟨rfl, rfl⟩]; decide)) 
      · have f_49 : R (-2147483648) 2147483647 (mI h 7 2) := R_full _
        have f_50 : R 0 0 0 := ⟨by decide, by decide⟩
        have f_51 : R 0 0 (mI h 7 2) := rf_eq f_50 c_42
        refine s_X10_refused 6 ok.1 (fun r11 h10 ko_52 f_54 tq => ?_)
        have ok_53 := Ok_tr ok ko_52 (by decide)
        exact hp _ _ ok_53 (by first | exact tq | exact tq (by decide) | (rw [mI_wI, if_pos ⟨rfl, rfl⟩]; decide)) 
    · have f_55 : R 0 9 (mI h 7 0) := GI_rd ok.1 7 _ (by decide)
      refine s_X10_refused 1 ok.1 (fun r13 h12 ko_56 f_58 tq => ?_)
      have ok_57 := Ok_tr ok ko_56 (by decide)
      exact hp _ _ ok_57 (by first | exact tq | exact tq (by decide) | (rw [mI_wI, if_pos ⟨rfl, rfl⟩]; decide)) 
set_option maxRecDepth 100000 in
set_option maxHeartbeats 4000000 in
theorem s_X10_core {g : gT} {h : mh_T} {P : Int32 → mh_T → Prop}  (hG : GI h)  (hp : ∀ (r : Int32) h', Ok [0] h h' → ¬ mI h' 0 11 = 4 → P r h') : MCi g yX10_core uX10_core [.ref 0] h P := by
  have ok : Ok [0] h h := Ok_rf hG
  refine e_X10_core   ?_
  refine s_X10_noBook ok.1 (fun r2 f_14 => ?_)
  refine ⟨fun c_15 => ?_, fun c_15 => ?_⟩
  · have f_16 : R 0 0 0 := ⟨by decide, by decide⟩
    have f_17 : R 0 0 r2 := rf_eq f_16 c_15
    refine s_X5_leastBroken ok.1 (fun r5 f_18 => ?_)
    refine s_X10_told r5 ok.1 (fun r7 h6 ko_19 tq => ?_)
    have ok_20 := Ok_tr ok ko_19 (by decide)
    have f_21 : R (-2147483648) 2147483647 r7 := R_full _
    exact hp _ _ ok_20 (by first | exact tq | exact tq (by decide) | (rw [mI_wI, if_pos ⟨rfl, rfl⟩]; decide)) 
  · have f_22 : R 0 0 0 := ⟨by decide, by decide⟩
    have f_23 : R 1 1 r2 := rf_ne_lo f_14 c_15 (by decide) 1 rfl
    refine s_X10_refused 1 ok.1 (fun r9 h8 ko_24 f_26 tq => ?_)
    have ok_25 := Ok_tr ok ko_24 (by decide)
    exact hp _ _ ok_25 (by first | exact tq | exact tq (by decide) | (rw [mI_wI, if_pos ⟨rfl, rfl⟩]; decide)) 
set_option maxRecDepth 100000 in
set_option maxHeartbeats 4000000 in
theorem s_X10_can {g : gT} {h : mh_T} {P : Int32 → mh_T → Prop} (l1 : Int32) (hG : GI h)  (hp : ∀ (r : Int32) h', Ok [0] h h' → ¬ mI h' 0 11 = 4 → P r h') : MCi g yX10_can uX10_can [.ref 0, .int l1] h P := by
  have ok : Ok [0] h h := Ok_rf hG
  refine e_X10_can l1  ?_
  refine s_X10_noBook ok.1 (fun r2 f_40 => ?_)
  refine ⟨fun c_41 => ?_, fun c_41 => ?_⟩
  · have f_42 : R 0 0 0 := ⟨by decide, by decide⟩
    have f_43 : R 0 0 r2 := rf_eq f_42 c_41
    refine ⟨fun c_44 => ?_, fun c_44 => ?_⟩
    · have f_45 : R 0 0 0 := ⟨by decide, by decide⟩
      have f_46 : R (-2147483648) (-1) l1 := rf_lt_l (R_full l1) f_45 c_44 (-1) (by decide)
      refine s_X10_refused 2 ok.1 (fun r6 h5 ko_47 f_49 tq => ?_)
      have ok_48 := Ok_tr ok ko_47 (by decide)
      exact hp _ _ ok_48 (by first | exact tq | exact tq (by decide) | (rw [mI_wI, if_pos ⟨rfl, rfl⟩]; decide)) 
    · have f_50 : R 0 0 0 := ⟨by decide, by decide⟩
      have f_51 : R 0 2147483647 l1 := rf_le_r f_50 (R_full l1) (nlt c_44) 0 (by decide)
      refine ⟨fun c_52 => ?_, fun c_52 => ?_⟩
      · have f_54 : R 0 8 (mI h 7 1) := GI_rd ok.1 7 _ (by decide)
        have f_53 : R 1 256 (1 <<< ((mI h 7 1) &&& 31)) := R_shl f_54 1 256 0 8 (by decide)
        have f_55 : R 0 255 l1 := rf_lt_l f_51 f_53 c_52 255 (by decide)
        refine s_X5_holds l1 ok.1 (fun r9 f_56 => ?_)
        refine ⟨fun c_57 => ?_, fun c_57 => ?_⟩
        · have f_58 : R 0 0 0 := ⟨by decide, by decide⟩
          have f_59 : R 0 0 r9 := rf_eq f_58 c_57
          refine s_X10_told 0 ok.1 (fun r12 h11 ko_60 tq => ?_)
          have ok_61 := Ok_tr ok ko_60 (by decide)
          have f_62 : R (-2147483648) 2147483647 r12 := R_full _
          exact hp _ _ ok_61 (by first | exact tq | exact tq (by decide) | (rw [mI_wI, if_pos ⟨rfl, rfl⟩]; decide)) 
        · have f_63 : R 0 0 0 := ⟨by decide, by decide⟩
          have f_64 : R 1 1 r9 := rf_ne_lo f_56 c_57 (by decide) 1 rfl
          refine s_X10_told 1 ok.1 (fun r14 h13 ko_65 tq => ?_)
          have ok_66 := Ok_tr ok ko_65 (by decide)
          have f_67 : R (-2147483648) 2147483647 r14 := R_full _
          exact hp _ _ ok_66 (by first | exact tq | exact tq (by decide) | (rw [mI_wI, if_pos ⟨rfl, rfl⟩]; decide)) 
      · have f_69 : R 0 8 (mI h 7 1) := GI_rd ok.1 7 _ (by decide)
        have f_68 : R 1 256 (1 <<< ((mI h 7 1) &&& 31)) := R_shl f_69 1 256 0 8 (by decide)
        have f_70 : R 1 2147483647 l1 := rf_le_r f_68 f_51 (nlt c_52) 1 (by decide)
        refine s_X10_refused 2 ok.1 (fun r16 h15 ko_71 f_73 tq => ?_)
        have ok_72 := Ok_tr ok ko_71 (by decide)
        exact hp _ _ ok_72 (by first | exact tq | exact tq (by decide) | (rw [mI_wI, if_pos ⟨rfl, rfl⟩]; decide)) 
  · have f_74 : R 0 0 0 := ⟨by decide, by decide⟩
    have f_75 : R 1 1 r2 := rf_ne_lo f_40 c_41 (by decide) 1 rfl
    refine s_X10_refused 1 ok.1 (fun r18 h17 ko_76 f_78 tq => ?_)
    have ok_77 := Ok_tr ok ko_76 (by decide)
    exact hp _ _ ok_77 (by first | exact tq | exact tq (by decide) | (rw [mI_wI, if_pos ⟨rfl, rfl⟩]; decide)) 
set_option maxRecDepth 100000 in
set_option maxHeartbeats 4000000 in
theorem s_X10_game {g : gT} {h : mh_T} {P : Int32 → mh_T → Prop}  (hG : GI h)  (hp : ∀ (r : Int32) h', Ok [0] h h' → ¬ mI h' 0 11 = 4 → P r h') : MCi g yX10_game uX10_game [.ref 0] h P := by
  have ok : Ok [0] h h := Ok_rf hG
  refine e_X10_game   ?_
  refine s_X10_noBook ok.1 (fun r2 f_14 => ?_)
  refine ⟨fun c_15 => ?_, fun c_15 => ?_⟩
  · have f_16 : R 0 0 0 := ⟨by decide, by decide⟩
    have f_17 : R 0 0 r2 := rf_eq f_16 c_15
    refine s_X5_mostHeld ok.1 (fun r5 f_18 => ?_)
    refine s_X10_told r5 ok.1 (fun r7 h6 ko_19 tq => ?_)
    have ok_20 := Ok_tr ok ko_19 (by decide)
    have f_21 : R (-2147483648) 2147483647 r7 := R_full _
    exact hp _ _ ok_20 (by first | exact tq | exact tq (by decide) | (rw [mI_wI, if_pos ⟨rfl, rfl⟩]; decide)) 
  · have f_22 : R 0 0 0 := ⟨by decide, by decide⟩
    have f_23 : R 1 1 r2 := rf_ne_lo f_14 c_15 (by decide) 1 rfl
    refine s_X10_refused 1 ok.1 (fun r9 h8 ko_24 f_26 tq => ?_)
    have ok_25 := Ok_tr ok ko_24 (by decide)
    exact hp _ _ ok_25 (by first | exact tq | exact tq (by decide) | (rw [mI_wI, if_pos ⟨rfl, rfl⟩]; decide)) 
set_option maxRecDepth 100000 in
set_option maxHeartbeats 4000000 in
theorem s_X10_square {g : gT} {h : mh_T} {P : Int32 → mh_T → Prop} (l1 : Int32) (l2 : Int32) (hG : GI h)  (hp : ∀ (r : Int32) h', Ok [0] h h' → ¬ mI h' 0 11 = 4 → P r h') : MCi g yX10_square uX10_square [.ref 0, .int l1, .int l2] h P := by
  have ok : Ok [0] h h := Ok_rf hG
  refine e_X10_square l1 l2  ?_
  refine s_X3_hasRay l1 ok.1 (fun r2 f_31 im_30 => ?_)
  refine ⟨fun c_32 => ?_, fun c_32 => ?_⟩
  · have f_33 : R 0 0 0 := ⟨by decide, by decide⟩
    have f_34 : R 0 0 r2 := rf_eq f_33 c_32
    refine s_X10_refused 1 ok.1 (fun r5 h4 ko_35 f_37 tq => ?_)
    have ok_36 := Ok_tr ok ko_35 (by decide)
    exact hp _ _ ok_36 (by first | exact tq | exact tq (by decide) | (rw [mI_wI, if_pos ⟨rfl, rfl⟩]; decide)) 
  · have f_38 : R 0 0 0 := ⟨by decide, by decide⟩
    have f_39 := (im_30 c_32)
    have f_40 : R 1 1 r2 := rf_ne_lo f_31 c_32 (by decide) 1 rfl
    refine s_X3_hasRay l2 ok.1 (fun r7 f_42 im_41 => ?_)
    refine ⟨fun c_43 => ?_, fun c_43 => ?_⟩
    · have f_44 : R 0 0 0 := ⟨by decide, by decide⟩
      have f_45 : R 0 0 r7 := rf_eq f_44 c_43
      refine s_X10_refused 1 ok.1 (fun r10 h9 ko_46 f_48 tq => ?_)
      have ok_47 := Ok_tr ok ko_46 (by decide)
      exact hp _ _ ok_47 (by first | exact tq | exact tq (by decide) | (rw [mI_wI, if_pos ⟨rfl, rfl⟩]; decide)) 
    · have f_49 : R 0 0 0 := ⟨by decide, by decide⟩
      have f_50 := (im_41 c_43)
      have f_51 : R 1 1 r7 := rf_ne_lo f_42 c_43 (by decide) 1 rfl
      refine ⟨fun c_52 => ?_, fun c_52 => ?_⟩
      · refine ⟨vin f_39 (by decide), ?_⟩
        refine s_X10_told (((mI h 32 l1.toNatClampNeg) >>> (l2 &&& 31)) &&& 1) ok.1 (fun r14 h13 ko_53 tq => ?_)
        have ok_54 := Ok_tr ok ko_53 (by decide)
        have f_55 : R (-2147483648) 2147483647 r14 := R_full _
        exact hp _ _ ok_54 (by first | exact tq | exact tq (by decide) | (rw [mI_wI, if_pos ⟨rfl, rfl⟩]; decide)) 
      · refine s_X10_refused 1 ok.1 (fun r16 h15 ko_56 f_58 tq => ?_)
        have ok_57 := Ok_tr ok ko_56 (by decide)
        exact hp _ _ ok_57 (by first | exact tq | exact tq (by decide) | (rw [mI_wI, if_pos ⟨rfl, rfl⟩]; decide)) 
set_option maxRecDepth 100000 in
set_option maxHeartbeats 4000000 in
theorem s_X10_corners {g : gT} {h : mh_T} {P : Int32 → mh_T → Prop}  (hG : GI h)  (hp : ∀ (r : Int32) h', Ok [0] h h' → ¬ mI h' 0 11 = 4 → P r h') : MCi g yX10_corners uX10_corners [.ref 0] h P := by
  have ok : Ok [0] h h := Ok_rf hG
  refine e_X10_corners   ?_
  refine s_X10_noBook ok.1 (fun r2 f_13 => ?_)
  refine ⟨fun c_14 => ?_, fun c_14 => ?_⟩
  · have f_15 : R 0 0 0 := ⟨by decide, by decide⟩
    have f_16 : R 0 0 r2 := rf_eq f_15 c_14
    refine s_X10_told (mI h 8 1) ok.1 (fun r5 h4 ko_17 tq => ?_)
    have ok_18 := Ok_tr ok ko_17 (by decide)
    have f_19 : R (-2147483648) 2147483647 r5 := R_full _
    exact hp _ _ ok_18 (by first | exact tq | exact tq (by decide) | (rw [mI_wI, if_pos ⟨rfl, rfl⟩]; decide)) 
  · have f_20 : R 0 0 0 := ⟨by decide, by decide⟩
    have f_21 : R 1 1 r2 := rf_ne_lo f_13 c_14 (by decide) 1 rfl
    refine s_X10_refused 1 ok.1 (fun r7 h6 ko_22 f_24 tq => ?_)
    have ok_23 := Ok_tr ok ko_22 (by decide)
    exact hp _ _ ok_23 (by first | exact tq | exact tq (by decide) | (rw [mI_wI, if_pos ⟨rfl, rfl⟩]; decide)) 
set_option maxRecDepth 100000 in
set_option maxHeartbeats 4000000 in
theorem s_X10_colours {g : gT} {h : mh_T} {P : Int32 → mh_T → Prop}  (hG : GI h)  (hp : ∀ (r : Int32) h', Ok [0, 8] h h' → ¬ mI h' 0 11 = 4 → P r h') : MCi g yX10_colours uX10_colours [.ref 0] h P := by
  have ok : Ok [0, 8] h h := Ok_rf hG
  refine e_X10_colours   ?_
  refine s_X10_noBook ok.1 (fun r2 f_15 => ?_)
  refine ⟨fun c_16 => ?_, fun c_16 => ?_⟩
  · have f_17 : R 0 0 0 := ⟨by decide, by decide⟩
    have f_18 : R 0 0 r2 := rf_eq f_17 c_16
    refine s_X3_work ok.1 (fun h4 ko_19 => ?_)
    have ok_20 := Ok_tr ok ko_19 (by decide)
    refine s_X10_told (mI h4 8 2) ok_20.1 (fun r6 h5 ko_21 tq => ?_)
    have ok_22 := Ok_tr ok_20 ko_21 (by decide)
    have f_23 : R (-2147483648) 2147483647 r6 := R_full _
    exact hp _ _ ok_22 (by first | exact tq | exact tq (by decide) | (rw [mI_wI, if_pos ⟨rfl, rfl⟩]; decide)) 
  · have f_24 : R 0 0 0 := ⟨by decide, by decide⟩
    have f_25 : R 1 1 r2 := rf_ne_lo f_15 c_16 (by decide) 1 rfl
    refine s_X10_refused 1 ok.1 (fun r8 h7 ko_26 f_28 tq => ?_)
    have ok_27 := Ok_tr ok ko_26 (by decide)
    exact hp _ _ ok_27 (by first | exact tq | exact tq (by decide) | (rw [mI_wI, if_pos ⟨rfl, rfl⟩]; decide)) 
set_option maxRecDepth 100000 in
set_option maxHeartbeats 4000000 in
theorem s_X10_ones {g : gT} {h : mh_T} {P : Int32 → mh_T → Prop}  (hG : GI h)  (hp : ∀ (r : Int32) h', Ok [0, 8] h h' → ¬ mI h' 0 11 = 4 → P r h') : MCi g yX10_ones uX10_ones [.ref 0] h P := by
  have ok : Ok [0, 8] h h := Ok_rf hG
  refine e_X10_ones   ?_
  refine s_X10_noBook ok.1 (fun r2 f_24 => ?_)
  refine ⟨fun c_25 => ?_, fun c_25 => ?_⟩
  · have f_26 : R 0 0 0 := ⟨by decide, by decide⟩
    have f_27 : R 0 0 r2 := rf_eq f_26 c_25
    refine s_X3_work ok.1 (fun h4 ko_28 => ?_)
    have ok_29 := Ok_tr ok ko_28 (by decide)
    refine ⟨fun c_30 => ?_, fun c_30 => ?_⟩
    · have f_31 : R (-2147483648) 2147483647 (mI h4 8 2) := R_full _
      have f_32 : R 0 0 0 := ⟨by decide, by decide⟩
      refine s_X10_told (mI h4 8 3) ok_29.1 (fun r7 h6 ko_33 tq => ?_)
      have ok_34 := Ok_tr ok_29 ko_33 (by decide)
      have f_35 : R (-2147483648) 2147483647 r7 := R_full _
      exact hp _ _ ok_34 (by first | exact tq | exact tq (by decide) | (rw [mI_wI, if_pos ⟨rfl, rfl⟩]; decide)) 
    · have f_36 : R (-2147483648) 2147483647 (mI h4 8 2) := R_full _
      have f_37 : R 0 0 0 := ⟨by decide, by decide⟩
      have f_38 : R 0 0 (mI h4 8 2) := rf_eq f_37 c_30
      refine s_X10_refused 6 ok_29.1 (fun r9 h8 ko_39 f_41 tq => ?_)
      have ok_40 := Ok_tr ok_29 ko_39 (by decide)
      exact hp _ _ ok_40 (by first | exact tq | exact tq (by decide) | (rw [mI_wI, if_pos ⟨rfl, rfl⟩]; decide)) 
  · have f_42 : R 0 0 0 := ⟨by decide, by decide⟩
    have f_43 : R 1 1 r2 := rf_ne_lo f_24 c_25 (by decide) 1 rfl
    refine s_X10_refused 1 ok.1 (fun r11 h10 ko_44 f_46 tq => ?_)
    have ok_45 := Ok_tr ok ko_44 (by decide)
    exact hp _ _ ok_45 (by first | exact tq | exact tq (by decide) | (rw [mI_wI, if_pos ⟨rfl, rfl⟩]; decide)) 
set_option maxRecDepth 100000 in
set_option maxHeartbeats 4000000 in
theorem s_X10_spare {g : gT} {h : mh_T} {P : Int32 → mh_T → Prop}  (hG : GI h)  (hp : ∀ (r : Int32) h', Ok [0, 8] h h' → ¬ mI h' 0 11 = 4 → P r h') : MCi g yX10_spare uX10_spare [.ref 0] h P := by
  have ok : Ok [0, 8] h h := Ok_rf hG
  refine e_X10_spare   ?_
  refine s_X10_noBook ok.1 (fun r2 f_15 => ?_)
  refine ⟨fun c_16 => ?_, fun c_16 => ?_⟩
  · have f_17 : R 0 0 0 := ⟨by decide, by decide⟩
    have f_18 : R 0 0 r2 := rf_eq f_17 c_16
    refine s_X3_work ok.1 (fun h4 ko_19 => ?_)
    have ok_20 := Ok_tr ok ko_19 (by decide)
    refine s_X10_told (mI h4 8 4) ok_20.1 (fun r6 h5 ko_21 tq => ?_)
    have ok_22 := Ok_tr ok_20 ko_21 (by decide)
    have f_23 : R (-2147483648) 2147483647 r6 := R_full _
    exact hp _ _ ok_22 (by first | exact tq | exact tq (by decide) | (rw [mI_wI, if_pos ⟨rfl, rfl⟩]; decide)) 
  · have f_24 : R 0 0 0 := ⟨by decide, by decide⟩
    have f_25 : R 1 1 r2 := rf_ne_lo f_15 c_16 (by decide) 1 rfl
    refine s_X10_refused 1 ok.1 (fun r8 h7 ko_26 f_28 tq => ?_)
    have ok_27 := Ok_tr ok ko_26 (by decide)
    exact hp _ _ ok_27 (by first | exact tq | exact tq (by decide) | (rw [mI_wI, if_pos ⟨rfl, rfl⟩]; decide)) 
set_option maxRecDepth 100000 in
set_option maxHeartbeats 4000000 in
theorem s_X10_critical {g : gT} {h : mh_T} {P : Int32 → mh_T → Prop}  (hG : GI h)  (hp : ∀ (r : Int32) h', Ok [0, 8] h h' → ¬ mI h' 0 11 = 4 → P r h') : MCi g yX10_critical uX10_critical [.ref 0] h P := by
  have ok : Ok [0, 8] h h := Ok_rf hG
  refine e_X10_critical   ?_
  refine s_X10_noBook ok.1 (fun r2 f_24 => ?_)
  refine ⟨fun c_25 => ?_, fun c_25 => ?_⟩
  · have f_26 : R 0 0 0 := ⟨by decide, by decide⟩
    have f_27 : R 0 0 r2 := rf_eq f_26 c_25
    refine s_X3_work ok.1 (fun h4 ko_28 => ?_)
    have ok_29 := Ok_tr ok ko_28 (by decide)
    refine ⟨fun c_30 => ?_, fun c_30 => ?_⟩
    · have f_31 : R (-2147483648) 2147483647 (mI h4 8 2) := R_full _
      have f_32 : R 0 0 0 := ⟨by decide, by decide⟩
      have f_33 : R 0 0 (mI h4 8 2) := rf_eq f_32 c_30
      refine s_X10_told (mI h4 8 5) ok_29.1 (fun r7 h6 ko_34 tq => ?_)
      have ok_35 := Ok_tr ok_29 ko_34 (by decide)
      have f_36 : R (-2147483648) 2147483647 r7 := R_full _
      exact hp _ _ ok_35 (by first | exact tq | exact tq (by decide) | (rw [mI_wI, if_pos ⟨rfl, rfl⟩]; decide)) 
    · have f_37 : R (-2147483648) 2147483647 (mI h4 8 2) := R_full _
      have f_38 : R 0 0 0 := ⟨by decide, by decide⟩
      refine s_X10_refused 6 ok_29.1 (fun r9 h8 ko_39 f_41 tq => ?_)
      have ok_40 := Ok_tr ok_29 ko_39 (by decide)
      exact hp _ _ ok_40 (by first | exact tq | exact tq (by decide) | (rw [mI_wI, if_pos ⟨rfl, rfl⟩]; decide)) 
  · have f_42 : R 0 0 0 := ⟨by decide, by decide⟩
    have f_43 : R 1 1 r2 := rf_ne_lo f_24 c_25 (by decide) 1 rfl
    refine s_X10_refused 1 ok.1 (fun r11 h10 ko_44 f_46 tq => ?_)
    have ok_45 := Ok_tr ok ko_44 (by decide)
    exact hp _ _ ok_45 (by first | exact tq | exact tq (by decide) | (rw [mI_wI, if_pos ⟨rfl, rfl⟩]; decide)) 
set_option maxRecDepth 100000 in
set_option maxHeartbeats 4000000 in
theorem s_X10_memory {g : gT} {h : mh_T} {P : Int32 → mh_T → Prop}  (hG : GI h)  (hp : ∀ (r : Int32) h', Ok [0, 9, 37, 38, 39] h h' → ¬ mI h' 0 11 = 4 → P r h') : MCi g yX10_memory uX10_memory [.ref 0] h P := by
  have ok : Ok [0, 9, 37, 38, 39] h h := Ok_rf hG
  refine e_X10_memory   ?_
  refine s_X10_noBook ok.1 (fun r2 f_25 => ?_)
  refine ⟨fun c_26 => ?_, fun c_26 => ?_⟩
  · have f_27 : R 0 0 0 := ⟨by decide, by decide⟩
    have f_28 : R 0 0 r2 := rf_eq f_27 c_26
    refine s_X9_work ok.1 (fun h4 ko_29 => ?_)
    have ok_30 := Ok_tr ok ko_29 (by decide)
    refine ⟨fun c_31 => ?_, fun c_31 => ?_⟩
    · have f_32 : R 0 3 (mI h4 9 1) := GI_rd ok_30.1 9 _ (by decide)
      have f_33 : R 0 0 0 := ⟨by decide, by decide⟩
      have f_34 : R 1 3 (mI h4 9 1) := rf_ne_lo f_32 c_31 (by decide) 1 rfl
      refine s_X10_told (mI h4 9 1) ok_30.1 (fun r7 h6 ko_35 tq => ?_)
      have ok_36 := Ok_tr ok_30 ko_35 (by decide)
      have f_37 : R (-2147483648) 2147483647 r7 := R_full _
      exact hp _ _ ok_36 (by first | exact tq | exact tq (by decide) | (rw [mI_wI, if_pos ⟨rfl, rfl⟩]; decide)) 
    · have f_38 : R 0 3 (mI h4 9 1) := GI_rd ok_30.1 9 _ (by decide)
      have f_39 : R 0 0 0 := ⟨by decide, by decide⟩
      have f_40 : R 0 0 (mI h4 9 1) := rf_eq f_39 c_31
      refine s_X10_told (-2) ok_30.1 (fun r9 h8 ko_41 tq => ?_)
      have ok_42 := Ok_tr ok_30 ko_41 (by decide)
      have f_43 : R (-2147483648) 2147483647 r9 := R_full _
      exact hp _ _ ok_42 (by first | exact tq | exact tq (by decide) | (rw [mI_wI, if_pos ⟨rfl, rfl⟩]; decide)) 
  · have f_44 : R 0 0 0 := ⟨by decide, by decide⟩
    have f_45 : R 1 1 r2 := rf_ne_lo f_25 c_26 (by decide) 1 rfl
    refine s_X10_refused 1 ok.1 (fun r11 h10 ko_46 f_48 tq => ?_)
    have ok_47 := Ok_tr ok ko_46 (by decide)
    exact hp _ _ ok_47 (by first | exact tq | exact tq (by decide) | (rw [mI_wI, if_pos ⟨rfl, rfl⟩]; decide)) 
set_option maxRecDepth 100000 in
set_option maxHeartbeats 4000000 in
theorem s_X10_machine {g : gT} {h : mh_T} {P : Int32 → mh_T → Prop} (l1 : Int32) (l2 : Int32) (l3 : Int32) (hG : GI h)  (hp : ∀ (r : Int32) h', Ok [0, 9, 37, 38, 39] h h' → ¬ mI h' 0 11 = 4 → P r h') : MCi g yX10_machine uX10_machine [.ref 0, .int l1, .int l2, .int l3] h P := by
  have ok : Ok [0, 9, 37, 38, 39] h h := Ok_rf hG
  refine e_X10_machine l1 l2 l3  ?_
  refine ⟨fun c_44 => ?_, fun c_44 => ?_⟩
  · have f_45 : R 0 0 0 := ⟨by decide, by decide⟩
    have f_46 : R (-2147483648) (-1) l1 := rf_lt_l (R_full l1) f_45 c_44 (-1) (by decide)
    refine s_X10_refused 1 ok.1 (fun r3 h2 ko_47 f_49 tq => ?_)
    have ok_48 := Ok_tr ok ko_47 (by decide)
    exact hp _ _ ok_48 (by first | exact tq | exact tq (by decide) | (rw [mI_wI, if_pos ⟨rfl, rfl⟩]; decide)) 
  · have f_50 : R 0 0 0 := ⟨by decide, by decide⟩
    have f_51 : R 0 2147483647 l1 := rf_le_r f_50 (R_full l1) (nlt c_44) 0 (by decide)
    refine ⟨fun c_52 => ?_, fun c_52 => ?_⟩
    · have f_53 : R 3 3 3 := ⟨by decide, by decide⟩
      have f_54 : R 3 2147483647 l1 := rf_le_r f_53 f_51 c_52 3 (by decide)
      refine s_X10_refused 1 ok.1 (fun r6 h5 ko_55 f_57 tq => ?_)
      have ok_56 := Ok_tr ok ko_55 (by decide)
      exact hp _ _ ok_56 (by first | exact tq | exact tq (by decide) | (rw [mI_wI, if_pos ⟨rfl, rfl⟩]; decide)) 
    · have f_58 : R 3 3 3 := ⟨by decide, by decide⟩
      have f_59 : R 0 2 l1 := rf_lt_l f_51 f_58 (nle c_52) 2 (by decide)
      refine s_X8_hasLook l2 ok.1 (fun r8 f_61 im_60 => ?_)
      refine ⟨fun c_62 => ?_, fun c_62 => ?_⟩
      · have f_63 : R 0 0 0 := ⟨by decide, by decide⟩
        have f_64 := (im_60 c_62)
        have f_65 : R 1 1 r8 := rf_ne_lo f_61 c_62 (by decide) 1 rfl
        refine s_X9_work ok.1 (fun h10 ko_66 => ?_)
        have ok_67 := Ok_tr ok ko_66 (by decide)
        refine ⟨fun c_68 => ?_, fun c_68 => ?_⟩
        · have f_69 : R 0 3 (mI h10 9 1) := GI_rd ok_67.1 9 _ (by decide)
          have f_70 : R 0 0 0 := ⟨by decide, by decide⟩
          have f_71 : R 1 3 (mI h10 9 1) := rf_ne_lo f_69 c_68 (by decide) 1 rfl
          refine s_X9_entry l1 l2 l3 ok_67.1 (R_w f_59 (by decide)) (R_w f_64 (by decide)) (fun r13 f_72 => ?_)
          refine s_X10_told r13 ok_67.1 (fun r15 h14 ko_73 tq => ?_)
          have ok_74 := Ok_tr ok_67 ko_73 (by decide)
          have f_75 : R (-2147483648) 2147483647 r15 := R_full _
          exact hp _ _ ok_74 (by first | exact tq | exact tq (by decide) | (rw [mI_wI, if_pos ⟨rfl, rfl⟩]; decide)) 
        · have f_76 : R 0 3 (mI h10 9 1) := GI_rd ok_67.1 9 _ (by decide)
          have f_77 : R 0 0 0 := ⟨by decide, by decide⟩
          have f_78 : R 0 0 (mI h10 9 1) := rf_eq f_77 c_68
          refine s_X10_refused 6 ok_67.1 (fun r17 h16 ko_79 f_81 tq => ?_)
          have ok_80 := Ok_tr ok_67 ko_79 (by decide)
          exact hp _ _ ok_80 (by first | exact tq | exact tq (by decide) | (rw [mI_wI, if_pos ⟨rfl, rfl⟩]; decide)) 
      · have f_82 : R 0 0 0 := ⟨by decide, by decide⟩
        have f_83 : R 0 0 r8 := rf_eq f_82 c_62
        refine s_X10_refused 1 ok.1 (fun r19 h18 ko_84 f_86 tq => ?_)
        have ok_85 := Ok_tr ok ko_84 (by decide)
        exact hp _ _ ok_85 (by first | exact tq | exact tq (by decide) | (rw [mI_wI, if_pos ⟨rfl, rfl⟩]; decide)) 
set_option maxRecDepth 100000 in
set_option maxHeartbeats 4000000 in
theorem s_X10_act {g : gT} {h : mh_T} {P : Int32 → mh_T → Prop} (l1 : Int32) (l2 : Int32) (hG : GI h)  (hp : ∀ (r : Int32) h', Ok [0] h h' → ¬ mI h' 0 11 = 4 → P r h') : MCi g yX10_act uX10_act [.ref 0, .int l1, .int l2] h P := by
  have ok : Ok [0] h h := Ok_rf hG
  refine e_X10_act l1 l2  ?_
  refine ⟨fun c_39 => ?_, fun c_39 => ?_⟩
  · have f_40 : R 0 0 0 := ⟨by decide, by decide⟩
    have f_41 : R (-2147483648) (-1) l1 := rf_lt_l (R_full l1) f_40 c_39 (-1) (by decide)
    refine s_X10_refused 1 ok.1 (fun r3 h2 ko_42 f_44 tq => ?_)
    have ok_43 := Ok_tr ok ko_42 (by decide)
    exact hp _ _ ok_43 (by first | exact tq | exact tq (by decide) | (rw [mI_wI, if_pos ⟨rfl, rfl⟩]; decide)) 
  · have f_45 : R 0 0 0 := ⟨by decide, by decide⟩
    have f_46 : R 0 2147483647 l1 := rf_le_r f_45 (R_full l1) (nlt c_39) 0 (by decide)
    refine ⟨fun c_47 => ?_, fun c_47 => ?_⟩
    · have f_48 : R 0 20 (mI h 10 0) := GI_rd ok.1 10 _ (by decide)
      refine s_X10_refused 1 ok.1 (fun r6 h5 ko_49 f_51 tq => ?_)
      have ok_50 := Ok_tr ok ko_49 (by decide)
      exact hp _ _ ok_50 (by first | exact tq | exact tq (by decide) | (rw [mI_wI, if_pos ⟨rfl, rfl⟩]; decide)) 
    · have f_52 : R 0 20 (mI h 10 0) := GI_rd ok.1 10 _ (by decide)
      have f_53 : R 0 19 l1 := rf_lt_l f_46 f_52 (nle c_47) 19 (by decide)
      have f_54 : R 1 20 (mI h 10 0) := rf_lt_r f_46 f_52 (nle c_47) 1 (by decide)
      refine ⟨fun c_55 => ?_, fun c_55 => ?_⟩
      · have f_56 : R 0 0 0 := ⟨by decide, by decide⟩
        have f_57 : R (-2147483648) (-1) l2 := rf_lt_l (R_full l2) f_56 c_55 (-1) (by decide)
        refine s_X10_refused 1 ok.1 (fun r9 h8 ko_58 f_60 tq => ?_)
        have ok_59 := Ok_tr ok ko_58 (by decide)
        exact hp _ _ ok_59 (by first | exact tq | exact tq (by decide) | (rw [mI_wI, if_pos ⟨rfl, rfl⟩]; decide)) 
      · have f_61 : R 0 0 0 := ⟨by decide, by decide⟩
        have f_62 : R 0 2147483647 l2 := rf_le_r f_61 (R_full l2) (nlt c_55) 0 (by decide)
        refine ⟨fun c_63 => ?_, fun c_63 => ?_⟩
        · have f_64 : R 5 5 5 := ⟨by decide, by decide⟩
          have f_65 : R 0 4 l2 := rf_lt_l f_62 f_64 c_63 4 (by decide)
          have f_66 : R 0 0 0 := ⟨by decide, by decide⟩
          refine ⟨vin f_53 (by decide), ?_⟩
          refine ⟨(ok.1.2.1 _ (ix_lt f_53 (by decide))), ?_⟩
          have f_67 : R 0 0 0 := ⟨by decide, by decide⟩
          have f_68 : R 5 5 5 := ⟨by decide, by decide⟩
          refine ⟨vin f_65 (by decide), ?_⟩
          refine s_X10_told (mI h (mR h 40 l1.toNatClampNeg) l2.toNatClampNeg) ok.1 (fun r15 h14 ko_69 tq => ?_)
          have ok_70 := Ok_tr ok ko_69 (by decide)
          have f_71 : R (-2147483648) 2147483647 r15 := R_full _
          exact hp _ _ ok_70 (by first | exact tq | exact tq (by decide) | (rw [mI_wI, if_pos ⟨rfl, rfl⟩]; decide)) 
        · have f_72 : R 5 5 5 := ⟨by decide, by decide⟩
          have f_73 : R 5 2147483647 l2 := rf_le_r f_72 f_62 (nlt c_63) 5 (by decide)
          refine s_X10_refused 1 ok.1 (fun r17 h16 ko_74 f_76 tq => ?_)
          have ok_75 := Ok_tr ok ko_74 (by decide)
          exact hp _ _ ok_75 (by first | exact tq | exact tq (by decide) | (rw [mI_wI, if_pos ⟨rfl, rfl⟩]; decide)) 
set_option maxRecDepth 100000 in
set_option maxHeartbeats 4000000 in
theorem s_X10_times {g : gT} {h : mh_T} {P : Int32 → mh_T → Prop} (l1 : Int32) (l2 : Int32) (hG : GI h)  (hp : ∀ (r : Int32) h', Ok [0] h h' → ¬ mI h' 0 11 = 4 → P r h') : MCi g yX10_times uX10_times [.ref 0, .int l1, .int l2] h P := by
  have ok : Ok [0] h h := Ok_rf hG
  refine e_X10_times l1 l2  ?_
  refine s_X8_hasOutcome l1 l2 ok.1 (fun r2 f_20 im_19 => ?_)
  refine ⟨fun c_21 => ?_, fun c_21 => ?_⟩
  · have f_22 : R 0 0 0 := ⟨by decide, by decide⟩
    have f_23 := (im_19 c_21).1
    have f_24 := (im_19 c_21).2
    have f_25 : R 1 1 r2 := rf_ne_lo f_20 c_21 (by decide) 1 rfl
    have f_28 : R 4 4 4 := ⟨by decide, by decide⟩
    have f_27 : R 0 28 (4 * l1) := R_mul f_28 f_23 0 28 (by decide)
    have f_26 : R 0 31 ((4 * l1) + l2) := R_add f_27 f_24 0 31 (by decide)
    refine ⟨vin f_26 (by decide), ?_⟩
    refine s_X10_told (mI h 26 ((4 * l1) + l2).toNatClampNeg) ok.1 (fun r6 h5 ko_29 tq => ?_)
    have ok_30 := Ok_tr ok ko_29 (by decide)
    have f_31 : R (-2147483648) 2147483647 r6 := R_full _
    exact hp _ _ ok_30 (by first | exact tq | exact tq (by decide) | (rw [mI_wI, if_pos ⟨rfl, rfl⟩]; decide)) 
  · have f_32 : R 0 0 0 := ⟨by decide, by decide⟩
    have f_33 : R 0 0 r2 := rf_eq f_32 c_21
    refine s_X10_refused 1 ok.1 (fun r8 h7 ko_34 f_36 tq => ?_)
    have ok_35 := Ok_tr ok ko_34 (by decide)
    exact hp _ _ ok_35 (by first | exact tq | exact tq (by decide) | (rw [mI_wI, if_pos ⟨rfl, rfl⟩]; decide)) 
set_option maxRecDepth 100000 in
set_option maxHeartbeats 4000000 in
theorem s_X10_look {g : gT} {h : mh_T} {P : Int32 → mh_T → Prop} (l1 : Int32) (l2 : Int32) (hG : GI h)  (hp : ∀ (r : Int32) h', Ok [0] h h' → ¬ mI h' 0 11 = 4 → P r h') : MCi g yX10_look uX10_look [.ref 0, .int l1, .int l2] h P := by
  have ok : Ok [0] h h := Ok_rf hG
  refine e_X10_look l1 l2  ?_
  refine s_X8_hasSet l1 ok.1 (fun r2 f_24 im_23 => ?_)
  refine ⟨fun c_25 => ?_, fun c_25 => ?_⟩
  · have f_26 : R 0 0 0 := ⟨by decide, by decide⟩
    have f_27 := (im_23 c_25).1
    have f_28 := (im_23 c_25).2
    have f_29 : R 1 1 r2 := rf_ne_lo f_24 c_25 (by decide) 1 rfl
    refine ⟨fun c_30 => ?_, fun c_30 => ?_⟩
    · have f_31 : R 0 0 0 := ⟨by decide, by decide⟩
      have f_32 : R 0 0 l2 := rf_eq f_31 c_30
      refine ⟨vin f_27 (by decide), ?_⟩
      refine s_X10_told (mI h 24 l1.toNatClampNeg) ok.1 (fun r7 h6 ko_33 tq => ?_)
      have ok_34 := Ok_tr ok ko_33 (by decide)
      have f_35 : R (-2147483648) 2147483647 r7 := R_full _
      exact hp _ _ ok_34 (by first | exact tq | exact tq (by decide) | (rw [mI_wI, if_pos ⟨rfl, rfl⟩]; decide)) 
    · have f_36 : R 0 0 0 := ⟨by decide, by decide⟩
      refine ⟨vin f_27 (by decide), ?_⟩
      refine s_X10_told (mI h 25 l1.toNatClampNeg) ok.1 (fun r10 h9 ko_37 tq => ?_)
      have ok_38 := Ok_tr ok ko_37 (by decide)
      have f_39 : R (-2147483648) 2147483647 r10 := R_full _
      exact hp _ _ ok_38 (by first | exact tq | exact tq (by decide) | (rw [mI_wI, if_pos ⟨rfl, rfl⟩]; decide)) 
  · have f_40 : R 0 0 0 := ⟨by decide, by decide⟩
    have f_41 : R 0 0 r2 := rf_eq f_40 c_25
    refine s_X10_refused 1 ok.1 (fun r12 h11 ko_42 f_44 tq => ?_)
    have ok_43 := Ok_tr ok ko_42 (by decide)
    exact hp _ _ ok_43 (by first | exact tq | exact tq (by decide) | (rw [mI_wI, if_pos ⟨rfl, rfl⟩]; decide)) 
set_option maxRecDepth 100000 in
set_option maxHeartbeats 4000000 in
theorem s_X10_coins {g : gT} {h : mh_T} {P : Int32 → mh_T → Prop} (l1 : Int32) (l2 : Int32) (hG : GI h)  (hp : ∀ (r : Int32) h', Ok [0] h h' → ¬ mI h' 0 11 = 4 → P r h') : MCi g yX10_coins uX10_coins [.ref 0, .int l1, .int l2] h P := by
  have ok : Ok [0] h h := Ok_rf hG
  refine e_X10_coins l1 l2  ?_
  refine s_X8_hasOutcome l1 l2 ok.1 (fun r2 f_20 im_19 => ?_)
  refine ⟨fun c_21 => ?_, fun c_21 => ?_⟩
  · have f_22 : R 0 0 0 := ⟨by decide, by decide⟩
    have f_23 := (im_19 c_21).1
    have f_24 := (im_19 c_21).2
    have f_25 : R 1 1 r2 := rf_ne_lo f_20 c_21 (by decide) 1 rfl
    have f_28 : R 4 4 4 := ⟨by decide, by decide⟩
    have f_27 : R 0 28 (4 * l1) := R_mul f_28 f_23 0 28 (by decide)
    have f_26 : R 0 31 ((4 * l1) + l2) := R_add f_27 f_24 0 31 (by decide)
    refine ⟨vin f_26 (by decide), ?_⟩
    refine s_X10_told (mI h 27 ((4 * l1) + l2).toNatClampNeg) ok.1 (fun r6 h5 ko_29 tq => ?_)
    have ok_30 := Ok_tr ok ko_29 (by decide)
    have f_31 : R (-2147483648) 2147483647 r6 := R_full _
    exact hp _ _ ok_30 (by first | exact tq | exact tq (by decide) | (rw [mI_wI, if_pos ⟨rfl, rfl⟩]; decide)) 
  · have f_32 : R 0 0 0 := ⟨by decide, by decide⟩
    have f_33 : R 0 0 r2 := rf_eq f_32 c_21
    refine s_X10_refused 1 ok.1 (fun r8 h7 ko_34 f_36 tq => ?_)
    have ok_35 := Ok_tr ok ko_34 (by decide)
    exact hp _ _ ok_35 (by first | exact tq | exact tq (by decide) | (rw [mI_wI, if_pos ⟨rfl, rfl⟩]; decide)) 
set_option maxRecDepth 100000 in
set_option maxHeartbeats 4000000 in
theorem s_X10_size {g : gT} {h : mh_T} {P : Int32 → mh_T → Prop} (l1 : Int32) (hG : GI h)  (hp : ∀ r : Int32, R (-20) 900 r → P r h) : MCi g yX10_size uX10_size [.ref 0, .int l1] h P := by
  have ok : Ok [] h h := Ok_rf hG
  refine e_X10_size l1  ?_
  refine ⟨fun c => ?_, fun c => ?_, fun c => ?_, fun c => ?_, fun c => ?_, fun c => ?_, fun c => ?_, fun c => ?_, fun c => ?_, fun c => ?_, fun c => ?_, fun c => ?_⟩
  · have f_15 : R (-1) (-1) (-1) := ⟨by decide, by decide⟩
    exact hp _ (R_w f_15 (by decide))
  · have f_16 : R 0 6 (mI h 3 1) := GI_rd ok.1 3 _ (by decide)
    exact hp _ (R_w f_16 (by decide))
  · have f_17 : R 0 9 (mI h 7 0) := GI_rd ok.1 7 _ (by decide)
    exact hp _ (R_w f_17 (by decide))
  · have f_18 : R 0 8 (mI h 3 2) := GI_rd ok.1 3 _ (by decide)
    exact hp _ (R_w f_18 (by decide))
  · have f_19 : R 0 8 (mI h 7 1) := GI_rd ok.1 7 _ (by decide)
    exact hp _ (R_w f_19 (by decide))
  · have f_20 : R 0 18 (mI h 8 0) := GI_rd ok.1 8 _ (by decide)
    exact hp _ (R_w f_20 (by decide))
  · have f_21 : R 0 4 (mI h 9 0) := GI_rd ok.1 9 _ (by decide)
    exact hp _ (R_w f_21 (by decide))
  · have f_22 : R 0 60 (mI h 3 0) := GI_rd ok.1 3 _ (by decide)
    exact hp _ (R_w f_22 (by decide))
  · have f_23 : R 0 20 (mI h 10 0) := GI_rd ok.1 10 _ (by decide)
    exact hp _ (R_w f_23 (by decide))
  · have f_25 : R 0 20 (mI h 10 1) := GI_rd ok.1 10 _ (by decide)
    have f_26 : R 0 20 (mI h 10 0) := GI_rd ok.1 10 _ (by decide)
    have f_24 : R (-20) 20 ((mI h 10 1) - (mI h 10 0)) := R_sub f_25 f_26 (-20) 20 (by decide)
    exact hp _ (R_w f_24 (by decide))
  · have f_27 : R 0 4 (mI h 10 2) := GI_rd ok.1 10 _ (by decide)
    exact hp _ (R_w f_27 (by decide))
  · have f_28 : R 0 900 (mI h 0 10) := GI_rd ok.1 0 _ (by decide)
    exact hp _ (R_w f_28 (by decide))
set_option maxRecDepth 100000 in
set_option maxHeartbeats 4000000 in
theorem s_X10_trouble {g : gT} {h : mh_T} {P : Int32 → mh_T → Prop}  (hG : GI h)  (hp : ∀ r : Int32, P r h) : MCi g yX10_trouble uX10_trouble [.ref 0] h P := by
  have ok : Ok [] h h := Ok_rf hG
  refine e_X10_trouble   ?_
  have f_2 : R (-2147483648) 2147483647 (mI h 0 11) := R_full _
  exact hp _ 
set_option maxRecDepth 100000 in
set_option maxHeartbeats 4000000 in
theorem s_X11_good {g : gT} {h : mh_T} {P : mh_T → Prop}  (hG : GI h)  (hp : ∀ h', Ok [300, 11] h h' → ¬ mI h' 11 11 = 4 → P h') : MCv g yX11_good uX11_good [.ref 11] h P := by
  have ok : Ok [300, 11] h h := Ok_rf hG
  refine e_X11_good   ?_
  have f_5 : R 0 0 0 := ⟨by decide, by decide⟩
  have ok_6 := Ok_w ok (k := 11) (j := 0) (v := 0) (lo := (-2147483648)) (hi := 2147483647) (by decide) (R_w f_5 (by decide)) (by decide) (by decide)
  have f_7 : R 0 0 0 := ⟨by decide, by decide⟩
  have ok_8 := Ok_w11 ok_6 (v := 0) (by decide) (by decide)
  exact hp _ ok_8 (by rw [mI_wI, if_pos ⟨rfl, rfl⟩]; decide)
set_option maxRecDepth 100000 in
set_option maxHeartbeats 4000000 in
theorem s_X11_no {g : gT} {h : mh_T} {P : Int32 → mh_T → Prop} (l1 : Int32) (hG : GI h)  (hp : ∀ (r : Int32) h', Ok [300, 11] h h' → R (-1) (-1) r → P r h') (h4 : ¬ l1 = 4 := by decide) : MCi g yX11_no uX11_no [.ref 11, .int l1] h P := by
  have ok : Ok [300, 11] h h := Ok_rf hG
  refine e_X11_no l1  ?_
  have ok_3 := Ok_w11 ok (v := l1) h4 (by decide)
  have f_4 : R (-1) (-1) (-1) := ⟨by decide, by decide⟩
  exact hp _ _ ok_3 (R_w f_4 (by decide))
set_option maxRecDepth 100000 in
set_option maxHeartbeats 4000000 in
theorem s_X11_less {g : gT} {h : mh_T} {P : Int32 → mh_T → Prop} (l1 : Int32) (l2 : Int32) (hG : GI h)  (hp : ∀ (r : Int32) h', Ok [300, 11] h h' → P r h') (h4 : ¬ l1 = 4 := by decide) : MCi g yX11_less uX11_less [.ref 11, .int l1, .int l2] h P := by
  have ok : Ok [300, 11] h h := Ok_rf hG
  refine e_X11_less l1 l2  ?_
  have ok_2 := Ok_w11 ok (v := l1) h4 (by decide)
  exact hp _ _ ok_2 
set_option maxRecDepth 100000 in
set_option maxHeartbeats 4000000 in
theorem s_X11_within {g : gT} {h : mh_T} {P : Int32 → mh_T → Prop} (l0 : Int32) (l1 : Int32) (l2 : Int32) (hG : GI h)  (hp : ∀ r : Int32, R 0 1 r → (¬ r = 0 → l1 ≤ l0 ∧ l0 ≤ l2) → P r h) : MCi g yX11_within uX11_within [.int l0, .int l1, .int l2] h P := by
  have ok : Ok [] h h := Ok_rf hG
  refine e_X11_within l0 l1 l2  ?_
  refine ⟨fun c_11 => ?_, fun c_11 => ?_⟩
  · have f_12 : R (-2147483648) 2147483646 l0 := rf_lt_l (R_full l0) (R_full l1) c_11 2147483646 (by decide)
    have f_13 : R (-2147483647) 2147483647 l1 := rf_lt_r (R_full l0) (R_full l1) c_11 (-2147483647) (by decide)
    have f_14 : R 0 0 0 := ⟨by decide, by decide⟩
    exact hp _ (R_w f_14 (by decide)) (fun z => absurd rfl z)
  · refine ⟨fun c_15 => ?_, fun c_15 => ?_⟩
    · have f_16 : R (-2147483648) 2147483646 l2 := rf_lt_l (R_full l2) (R_full l0) c_15 2147483646 (by decide)
      have f_17 : R (-2147483647) 2147483647 l0 := rf_lt_r (R_full l2) (R_full l0) c_15 (-2147483647) (by decide)
      have f_18 : R 0 0 0 := ⟨by decide, by decide⟩
      exact hp _ (R_w f_18 (by decide)) (fun z => absurd rfl z)
    · have f_19 : R 1 1 1 := ⟨by decide, by decide⟩
      have f_20 : R 1 1 1 := ⟨by decide, by decide⟩
      exact hp _ (R_w f_19 (by decide)) (fun _ => ⟨(nlt c_11), (nlt c_15)⟩)
set_option maxRecDepth 100000 in
set_option maxHeartbeats 4000000 in
theorem s_X11_has {g : gT} {h : mh_T} {P : Int32 → mh_T → Prop} (l0 : Int32) (l1 : Int32) (hG : GI h)  (hp : ∀ r : Int32, R 0 1 r → P r h) : MCi g yX11_has uX11_has [.int l0, .int l1] h P := by
  have ok : Ok [] h h := Ok_rf hG
  refine e_X11_has l0 l1  ?_
  refine ⟨fun c_12 => ?_, fun c_12 => ?_⟩
  · have f_14 : R 1 1 1 := ⟨by decide, by decide⟩
    have f_13 : R 0 1 ((l0 >>> (l1 &&& 31)) &&& 1) := R_and f_14 (by decide)
    have f_15 : R 1 1 1 := ⟨by decide, by decide⟩
    have f_16 : R 0 0 ((l0 >>> (l1 &&& 31)) &&& 1) := rf_ne_hi f_13 c_12 (by decide) 0 rfl
    have f_17 : R 0 0 0 := ⟨by decide, by decide⟩
    exact hp _ (R_w f_17 (by decide))
  · have f_19 : R 1 1 1 := ⟨by decide, by decide⟩
    have f_18 : R 0 1 ((l0 >>> (l1 &&& 31)) &&& 1) := R_and f_19 (by decide)
    have f_20 : R 1 1 1 := ⟨by decide, by decide⟩
    have f_21 : R 1 1 ((l0 >>> (l1 &&& 31)) &&& 1) := rf_eq f_20 c_12
    have f_22 : R 1 1 1 := ⟨by decide, by decide⟩
    exact hp _ (R_w f_22 (by decide))
set_option maxRecDepth 100000 in
set_option maxHeartbeats 4000000 in
theorem s_X11_bits_L {g : gT} {h0 : mh_T} {P : Int32 → mh_T → Prop} (hG0 : GI h0) (hp : ∀ r : Int32, P r h0) : ∀ n : Nat, (∀ (l0 : Int32) (l1 : Int32) (l2 : Int32), R (-2147483648) 2147483647 l0 → R (-2147483648) 2147483647 l1 → R 0 20 l2 → 1 * gap 20 l2 + 0 < n → ME g uX11_bits 4 [.int l0, .int l1, .int l2] [] h0 (qI P)) := by
  intro n
  induction n with
  | zero =>
    exact (fun _ _ _ _ _ _ hm => absurd hm (Nat.not_lt_zero _))
  | succ n ih =>
    intro l0 l1 l2  fl0 fl1 fl2     hm
    have ok : Ok [] h0 h0 := Ok_rf hG0
    refine r_X11_bits_4 l0 l1 l2  ?_
    refine ⟨fun c_702 => ?_, fun c_702 => ?_⟩
    · have f_703 : R 20 20 20 := ⟨by decide, by decide⟩
      have f_704 : R 20 20 l2 := rf_le_r f_703 fl2 c_702 20 (by decide)
      exact hp _ 
    · have f_705 : R 20 20 20 := ⟨by decide, by decide⟩
      have f_706 : R 0 19 l2 := rf_lt_l fl2 f_705 (nle c_702) 19 (by decide)
      intro x2 ex2
      have f_709 : R 1 1 1 := ⟨by decide, by decide⟩
      have f_708 : R 0 1 ((l0 >>> (l2 &&& 31)) &&& 1) := R_and f_709 (by decide)
      have f_707 : R (-2147483648) 2147483647 (l1 + ((l0 >>> (l2 &&& 31)) &&& 1)) := R_full _
      have f_710 : R (-2147483648) 2147483647 x2 := rf_eq f_707 ex2
      have f_712 : R 1 1 1 := ⟨by decide, by decide⟩
      have f_711 : R 1 20 (l2 + 1) := R_add f_706 f_712 1 20 (by decide)
      have g_713 := gap_inc (N := 20) f_706 (by decide)
      exact ih l0 x2 (l2 + 1)  (R_w fl0 (by decide)) (R_w f_710 (by decide)) (R_w f_711 (by decide)) (by omega)
set_option maxRecDepth 100000 in
set_option maxHeartbeats 4000000 in
theorem s_X11_bits {g : gT} {h : mh_T} {P : Int32 → mh_T → Prop} (l0 : Int32) (hG : GI h)  (hp : ∀ r : Int32, P r h) : MCi g yX11_bits uX11_bits [.int l0] h P := by
  have ok : Ok [] h h := Ok_rf hG
  have L0 := s_X11_bits_L (g := g) hG hp 21
  refine e_X11_bits l0  ?_
  have f_714 : R 0 0 0 := ⟨by decide, by decide⟩
  have f_715 : R 0 0 0 := ⟨by decide, by decide⟩
  have f_716 : R 0 0 0 := ⟨by decide, by decide⟩
  have g_717 := gap_le (N := 20) f_716 (m := 20) (by decide)
  exact L0 l0 0 0  (R_w (R_full l0) (by decide)) (R_w f_714 (by decide)) (R_w f_715 (by decide)) (by omega)

abbrev msM : List Nat := [301, 11, 44, 45, 46, 47]
theorem rg4645 : ∀ j, j < 346 → (rgT 45 j).1 ≤ (rgT 46 j).1 ∧ (rgT 46 j).2 ≤ (rgT 45 j).2 := by decide +kernel
theorem rg46_0 : ∀ j, j < 346 → (rgT 46 j).1 ≤ 0 ∧ 0 ≤ (rgT 46 j).2 := by decide +kernel
set_option maxRecDepth 100000 in
set_option maxHeartbeats 4000000 in
theorem s_X11_fault {g : gT} {h : mh_T} {P : Int32 → mh_T → Prop}  (hG : GI h)  (hp : ∀ (r : Int32) h', Ok [11] h h' → P r h') : MCi g yX11_fault uX11_fault [.ref 11] h P := by
  have ok : Ok [11] h h := Ok_rf hG
  refine e_X11_fault   ?_
  have f_5 : R 0 0 0 := ⟨by decide, by decide⟩
  have ok_6 := Ok_w ok (k := 11) (j := 0) (v := 0) (lo := (-2147483648)) (hi := 2147483647) (by decide) (R_w f_5 (by decide)) (by decide) (by decide)
  have f_8 : R (-2147483648) 2147483647 (mI h 11 9) := R_full _
  have f_7 : R (-2147483648) 2147483647 (mI (wI h 11 0 0) 11 9) := (rd_nj f_8 (by decide))
  exact hp _ _ ok_6 
set_option maxRecDepth 100000 in
set_option maxHeartbeats 4000000 in
theorem s_X11_where {g : gT} {h : mh_T} {P : Int32 → mh_T → Prop}  (hG : GI h)  (hp : ∀ (r : Int32) h', Ok [11] h h' → P r h') : MCi g yX11_where uX11_where [.ref 11] h P := by
  have ok : Ok [11] h h := Ok_rf hG
  refine e_X11_where   ?_
  refine ⟨fun c_16 => ?_, fun c_16 => ?_⟩
  · have f_18 : R (-2147483648) 2147483647 (mI h 11 11) := R_full _
    have f_17 : R (-2147483648) 2147483647 (mI (wI h 11 0 0) 11 11) := (rd_nj f_18 (by decide))
    have f_19 : R 4 4 4 := ⟨by decide, by decide⟩
    have f_20 : R 0 0 0 := ⟨by decide, by decide⟩
    have ok_21 := Ok_w ok (k := 11) (j := 0) (v := 0) (lo := (-2147483648)) (hi := 2147483647) (by decide) (R_w f_20 (by decide)) (by decide) (by decide)
    have f_22 : R (-1) (-1) (-1) := ⟨by decide, by decide⟩
    exact hp _ _ ok_21 
  · have f_24 : R (-2147483648) 2147483647 (mI h 11 11) := R_full _
    have f_23 : R (-2147483648) 2147483647 (mI (wI h 11 0 0) 11 11) := (rd_nj f_24 (by decide))
    have f_25 : R 4 4 4 := ⟨by decide, by decide⟩
    have f_26 : R 4 4 (mI (wI h 11 0 0) 11 11) := rf_eq f_25 c_16
    have f_27 : R 0 0 0 := ⟨by decide, by decide⟩
    have ok_28 := Ok_w ok (k := 11) (j := 0) (v := 0) (lo := (-2147483648)) (hi := 2147483647) (by decide) (R_w f_27 (by decide)) (by decide) (by decide)
    have f_30 : R (-2147483648) 2147483647 (mI h 11 10) := R_full _
    have f_29 : R (-2147483648) 2147483647 (mI (wI h 11 0 0) 11 10) := (rd_nj f_30 (by decide))
    exact hp _ _ ok_28 
set_option maxRecDepth 100000 in
set_option maxHeartbeats 4000000 in
theorem s_X11_isSet {g : gT} {h : mh_T} {P : Int32 → mh_T → Prop} (l1 : Int32) (hG : GI h)  (hp : ∀ r : Int32, R 0 1 r → (¬ r = 0 → R 0 7 l1 ∧ R 1 8 (mI h 45 (Int32.toNatClampNeg 0))) → P r h) : MCi g yX11_isSet uX11_isSet [.ref 11, .int l1] h P := by
  have ok : Ok [] h h := Ok_rf hG
  refine e_X11_isSet l1  ?_
  refine ⟨fun c_28 => ?_, fun c_28 => ?_⟩
  · have f_29 : R 0 1 (mI h 11 14) := GI_rd ok.1 11 _ (by decide)
    have f_30 : R 0 0 0 := ⟨by decide, by decide⟩
    have f_31 : R 0 0 (mI h 11 14) := rf_eq f_30 c_28
    have f_32 : R 0 0 0 := ⟨by decide, by decide⟩
    exact hp _ (R_w f_32 (by decide)) (fun z => absurd rfl z)
  · have f_33 : R 0 1 (mI h 11 14) := GI_rd ok.1 11 _ (by decide)
    have f_34 : R 0 0 0 := ⟨by decide, by decide⟩
    have f_35 : R 1 1 (mI h 11 14) := rf_ne_lo f_33 c_28 (by decide) 1 rfl
    refine s_X11_within l1 0 ((mI h 45 (Int32.toNatClampNeg 0)) - 1) ok.1 (fun r3 f_37 im_36 => ?_)
    refine ⟨fun c_38 => ?_, fun c_38 => ?_⟩
    · have f_39 : R 0 0 0 := ⟨by decide, by decide⟩
      have f_40 : R 0 0 r3 := rf_eq f_39 c_38
      have f_41 : R 0 0 0 := ⟨by decide, by decide⟩
      exact hp _ (R_w f_41 (by decide)) (fun z => absurd rfl z)
    · have f_42 : R 0 0 0 := ⟨by decide, by decide⟩
      have f_43 : R 0 0 0 := ⟨by decide, by decide⟩
      have f_44 : R 0 2147483647 l1 := rf_le_r f_43 (R_full l1) (im_36 c_38).1 0 (by decide)
      have f_46 : R 0 8 (mI h 45 (Int32.toNatClampNeg 0)) := GI_rd ok.1 45 _ (by decide)
      have f_47 : R 1 1 1 := ⟨by decide, by decide⟩
      have f_45 : R (-1) 7 ((mI h 45 (Int32.toNatClampNeg 0)) - 1) := R_sub f_46 f_47 (-1) 7 (by decide)
      have f_48 : R 0 7 l1 := rf_le_l f_44 f_45 (im_36 c_38).2 7 (by decide)
      have f_49 : R 0 7 ((mI h 45 (Int32.toNatClampNeg 0)) - 1) := rf_le_r f_44 f_45 (im_36 c_38).2 0 (by decide)
      have f_50 : R 1 8 (mI h 45 (Int32.toNatClampNeg 0)) := R_um1 f_46 f_49 1 8 (by decide)
      have f_51 : R 1 1 r3 := rf_ne_lo f_37 c_38 (by decide) 1 rfl
      have f_52 : R 1 1 1 := ⟨by decide, by decide⟩
      have f_53 : R 1 1 1 := ⟨by decide, by decide⟩
      have f_54 : R 0 0 0 := ⟨by decide, by decide⟩
      exact hp _ (R_w f_52 (by decide)) (fun _ => ⟨R_w f_48 (by decide), R_w f_50 (by decide)⟩)
set_option maxRecDepth 100000 in
set_option maxHeartbeats 4000000 in
theorem s_X11_isLook {g : gT} {h : mh_T} {P : Int32 → mh_T → Prop} (l1 : Int32) (hG : GI h)  (hp : ∀ r : Int32, R 0 1 r → (¬ r = 0 → R 0 5 l1) → P r h) : MCi g yX11_isLook uX11_isLook [.ref 11, .int l1] h P := by
  have ok : Ok [] h h := Ok_rf hG
  refine e_X11_isLook l1  ?_
  refine ⟨fun c_28 => ?_, fun c_28 => ?_⟩
  · have f_29 : R 0 1 (mI h 11 14) := GI_rd ok.1 11 _ (by decide)
    have f_30 : R 0 0 0 := ⟨by decide, by decide⟩
    have f_31 : R 0 0 (mI h 11 14) := rf_eq f_30 c_28
    have f_32 : R 0 0 0 := ⟨by decide, by decide⟩
    exact hp _ (R_w f_32 (by decide)) (fun z => absurd rfl z)
  · have f_33 : R 0 1 (mI h 11 14) := GI_rd ok.1 11 _ (by decide)
    have f_34 : R 0 0 0 := ⟨by decide, by decide⟩
    have f_35 : R 1 1 (mI h 11 14) := rf_ne_lo f_33 c_28 (by decide) 1 rfl
    refine s_X11_within l1 0 ((mI h 45 (Int32.toNatClampNeg 50)) - 1) ok.1 (fun r3 f_37 im_36 => ?_)
    refine ⟨fun c_38 => ?_, fun c_38 => ?_⟩
    · have f_39 : R 0 0 0 := ⟨by decide, by decide⟩
      have f_40 : R 0 0 r3 := rf_eq f_39 c_38
      have f_41 : R 0 0 0 := ⟨by decide, by decide⟩
      exact hp _ (R_w f_41 (by decide)) (fun z => absurd rfl z)
    · have f_42 : R 0 0 0 := ⟨by decide, by decide⟩
      have f_43 : R 0 0 0 := ⟨by decide, by decide⟩
      have f_44 : R 0 2147483647 l1 := rf_le_r f_43 (R_full l1) (im_36 c_38).1 0 (by decide)
      have f_46 : R 0 6 (mI h 45 (Int32.toNatClampNeg 50)) := GI_rd ok.1 45 _ (by decide)
      have f_47 : R 1 1 1 := ⟨by decide, by decide⟩
      have f_45 : R (-1) 5 ((mI h 45 (Int32.toNatClampNeg 50)) - 1) := R_sub f_46 f_47 (-1) 5 (by decide)
      have f_48 : R 0 5 l1 := rf_le_l f_44 f_45 (im_36 c_38).2 5 (by decide)
      have f_49 : R 0 5 ((mI h 45 (Int32.toNatClampNeg 50)) - 1) := rf_le_r f_44 f_45 (im_36 c_38).2 0 (by decide)
      have f_50 : R 1 6 (mI h 45 (Int32.toNatClampNeg 50)) := R_um1 f_46 f_49 1 6 (by decide)
      have f_51 : R 1 1 r3 := rf_ne_lo f_37 c_38 (by decide) 1 rfl
      have f_52 : R 1 1 1 := ⟨by decide, by decide⟩
      have f_53 : R 1 1 1 := ⟨by decide, by decide⟩
      have f_54 : R 0 0 0 := ⟨by decide, by decide⟩
      exact hp _ (R_w f_52 (by decide)) (fun _ => R_w f_48 (by decide))
set_option maxRecDepth 100000 in
set_option maxHeartbeats 4000000 in
theorem s_X11_outcomes {g : gT} {h : mh_T} {P : Int32 → mh_T → Prop} (l1 : Int32) (hG : GI h) (fl1 : R 0 7 l1) (hp : ∀ r : Int32, R 2 4 r → P r h) : MCi g yX11_outcomes uX11_outcomes [.ref 45, .int l1] h P := by
  have ok : Ok [] h h := Ok_rf hG
  refine e_X11_outcomes l1  ?_
  have f_13 : R 9 9 9 := ⟨by decide, by decide⟩
  have f_12 : R 9 16 (9 + l1) := R_add f_13 fl1 9 16 (by decide)
  refine ⟨vin f_12 (by decide), ?_⟩
  refine ⟨fun c_14 => ?_, fun c_14 => ?_⟩
  · have f_15 : R (-2) 5 (mI h 45 (9 + l1).toNatClampNeg) := GI_rd ok.1 45 _ (rgp_45_2 (ix_ge f_12 (by decide)) (ix_le f_12 (by decide)))
    have f_16 : R (-2) (-2) (-2) := ⟨by decide, by decide⟩
    have f_17 : R (-1) 5 (mI h 45 (9 + l1).toNatClampNeg) := rf_ne_lo f_15 c_14 (by decide) (-1) rfl
    have f_18 : R 4 4 4 := ⟨by decide, by decide⟩
    exact hp _ (R_w f_18 (by decide))
  · have f_19 : R (-2) 5 (mI h 45 (9 + l1).toNatClampNeg) := GI_rd ok.1 45 _ (rgp_45_2 (ix_ge f_12 (by decide)) (ix_le f_12 (by decide)))
    have f_20 : R (-2) (-2) (-2) := ⟨by decide, by decide⟩
    have f_21 : R (-2) (-2) (mI h 45 (9 + l1).toNatClampNeg) := rf_eq f_20 c_14
    have f_22 : R 2 2 2 := ⟨by decide, by decide⟩
    exact hp _ (R_w f_22 (by decide))
set_option maxRecDepth 100000 in
set_option maxHeartbeats 4000000 in
theorem s_X11_isOutcome {g : gT} {h : mh_T} {P : Int32 → mh_T → Prop} (l1 : Int32) (l2 : Int32) (hG : GI h)  (hp : ∀ r : Int32, R 0 1 r → (¬ r = 0 → R 0 7 l1 ∧ R 0 3 l2) → P r h) : MCi g yX11_isOutcome uX11_isOutcome [.ref 11, .int l1, .int l2] h P := by
  have ok : Ok [] h h := Ok_rf hG
  refine e_X11_isOutcome l1 l2  ?_
  refine s_X11_isSet l1 ok.1 (fun r2 f_29 im_28 => ?_)
  refine ⟨fun c_30 => ?_, fun c_30 => ?_⟩
  · have f_31 : R 0 0 0 := ⟨by decide, by decide⟩
    have f_32 : R 0 0 r2 := rf_eq f_31 c_30
    have f_33 : R 0 0 0 := ⟨by decide, by decide⟩
    exact hp _ (R_w f_33 (by decide)) (fun z => absurd rfl z)
  · have f_34 : R 0 0 0 := ⟨by decide, by decide⟩
    have f_35 := (im_28 c_30).1
    have f_36 := (im_28 c_30).2
    have f_37 : R 1 1 r2 := rf_ne_lo f_29 c_30 (by decide) 1 rfl
    refine s_X11_outcomes l1 ok.1 (R_w f_35 (by decide)) (fun r5 f_38 => ?_)
    refine s_X11_within l2 0 (r5 - 1) ok.1 (fun r7 f_40 im_39 => ?_)
    refine ⟨fun c_41 => ?_, fun c_41 => ?_⟩
    · have f_42 : R 0 0 0 := ⟨by decide, by decide⟩
      have f_43 : R 0 0 r7 := rf_eq f_42 c_41
      have f_44 : R 0 0 0 := ⟨by decide, by decide⟩
      exact hp _ (R_w f_44 (by decide)) (fun z => absurd rfl z)
    · have f_45 : R 0 0 0 := ⟨by decide, by decide⟩
      have f_46 : R 0 0 0 := ⟨by decide, by decide⟩
      have f_47 : R 0 2147483647 l2 := rf_le_r f_46 (R_full l2) (im_39 c_41).1 0 (by decide)
      have f_49 : R 1 1 1 := ⟨by decide, by decide⟩
      have f_48 : R 1 3 (r5 - 1) := R_sub f_38 f_49 1 3 (by decide)
      have f_50 : R 0 3 l2 := rf_le_l f_47 f_48 (im_39 c_41).2 3 (by decide)
      have f_51 : R 1 1 r7 := rf_ne_lo f_40 c_41 (by decide) 1 rfl
      have f_52 : R 1 1 1 := ⟨by decide, by decide⟩
      have f_53 : R 1 1 1 := ⟨by decide, by decide⟩
      have f_54 : R 0 0 0 := ⟨by decide, by decide⟩
      exact hp _ (R_w f_52 (by decide)) (fun _ => ⟨R_w f_35 (by decide), R_w f_50 (by decide)⟩)
set_option maxRecDepth 100000 in
set_option maxHeartbeats 4000000 in
theorem s_X11_hiddenMany {g : gT} {h : mh_T} {P : Int32 → mh_T → Prop}  (hG : GI h)  (hp : ∀ r : Int32, R 1 64 r → P r h) : MCi g yX11_hiddenMany uX11_hiddenMany [.ref 11] h P := by
  have ok : Ok [] h h := Ok_rf hG
  refine e_X11_hiddenMany   ?_
  have f_4 : R 0 6 (mI h 45 (Int32.toNatClampNeg 50)) := GI_rd ok.1 45 _ (by decide)
  have f_3 : R 1 64 (1 <<< ((mI h 45 (Int32.toNatClampNeg 50)) &&& 31)) := R_shl f_4 1 64 0 6 (by decide)
  exact hp _ (R_w f_3 (by decide))
set_option maxRecDepth 100000 in
set_option maxHeartbeats 4000000 in
theorem s_X11_fitted {g : gT} {h : mh_T} {P : Int32 → mh_T → Prop} (l1 : Int32) (l2 : Int32) (hG : GI h) (fl1 : R 0 7 l1) (hp : ∀ r : Int32, R 0 3 r → P r h) : MCi g yX11_fitted uX11_fitted [.ref 11, .int l1, .int l2] h P := by
  have ok : Ok [] h h := Ok_rf hG
  refine e_X11_fitted l1 l2  ?_
  have f_21 : R 1 1 1 := ⟨by decide, by decide⟩
  have f_20 : R 1 8 (1 + l1) := R_add f_21 fl1 1 8 (by decide)
  refine ⟨vin f_20 (by decide), ?_⟩
  intro x2 ex2
  have f_23 : R 1 1 1 := ⟨by decide, by decide⟩
  have f_22 : R 0 1 ((l2 >>> ((mI h 45 (1 + l1).toNatClampNeg) &&& 31)) &&& 1) := R_and f_23 (by decide)
  have f_24 : R 0 1 x2 := rf_eq f_22 ex2
  have f_26 : R 9 9 9 := ⟨by decide, by decide⟩
  have f_25 : R 9 16 (9 + l1) := R_add f_26 fl1 9 16 (by decide)
  refine ⟨vin f_25 (by decide), ?_⟩
  refine ⟨fun c_27 => ?_, fun c_27 => ?_⟩
  · have f_28 : R (-2) 5 (mI h 45 (9 + l1).toNatClampNeg) := GI_rd ok.1 45 _ (rgp_45_2 (ix_ge f_25 (by decide)) (ix_le f_25 (by decide)))
    have f_29 : R (-2) (-2) (-2) := ⟨by decide, by decide⟩
    have f_30 : R (-1) 5 (mI h 45 (9 + l1).toNatClampNeg) := rf_ne_lo f_28 c_27 (by decide) (-1) rfl
    refine ⟨vin f_25 (by decide), ?_⟩
    have f_33 : R 2 2 2 := ⟨by decide, by decide⟩
    have f_32 : R 0 2 (2 * x2) := R_mul f_33 f_24 0 2 (by decide)
    have f_35 : R 1 1 1 := ⟨by decide, by decide⟩
    have f_34 : R 0 1 ((l2 >>> ((mI h 45 (9 + l1).toNatClampNeg) &&& 31)) &&& 1) := R_and f_35 (by decide)
    have f_31 : R 0 3 ((2 * x2) + ((l2 >>> ((mI h 45 (9 + l1).toNatClampNeg) &&& 31)) &&& 1)) := R_add f_32 f_34 0 3 (by decide)
    exact hp _ (R_w f_31 (by decide))
  · have f_36 : R (-2) 5 (mI h 45 (9 + l1).toNatClampNeg) := GI_rd ok.1 45 _ (rgp_45_2 (ix_ge f_25 (by decide)) (ix_le f_25 (by decide)))
    have f_37 : R (-2) (-2) (-2) := ⟨by decide, by decide⟩
    have f_38 : R (-2) (-2) (mI h 45 (9 + l1).toNatClampNeg) := rf_eq f_37 c_27
    exact hp _ (R_w f_24 (by decide))
theorem lg_eq {x y : Int64} (h : lg_cmp x y = 0) : x = y := by
  unfold lg_cmp at h
  split at h
  · cases h
  · split at h
    · assumption
    · cases h
theorem rem_ti {x y : Int64} (h : ¬ y = 0) : (x - x / y * y).toInt = x.toInt.tmod y.toInt := by
  have hy : y.toInt ≠ 0 := fun z => h (Int64.toInt_inj.mp (by rw [z]; decide))
  have e : x.toInt - x.toInt.tdiv y.toInt * y.toInt = x.toInt.tmod y.toInt := by
    rw [Int.tmod_def, Int.mul_comm]
  have l1 := Int64.le_toInt y
  have l2 := Int64.toInt_le y
  have m1 : (x.toInt.tmod y.toInt).natAbs < y.toInt.natAbs := by
    rw [Int.natAbs_tmod]
    exact Nat.mod_lt _ (by omega)
  have q1 : Int64.minValue.toInt = -9223372036854775808 := by decide
  have q2 : Int64.maxValue.toInt = 9223372036854775807 := by decide
  rw [Int64.toInt_sub, Int64.toInt_mul, Int64.toInt_div]
  simp only [Int.bmod_mul_bmod, Int.sub_bmod_bmod]
  rw [e]
  exact Int.bmod_eq_of_le (by omega) (by omega)
theorem rem_abs {x y : Int64} (h : ¬ y = 0) : (x - x / y * y).toInt.natAbs < y.toInt.natAbs := by
  have hy : y.toInt ≠ 0 := fun z => h (Int64.toInt_inj.mp (by rw [z]; decide))
  rw [rem_ti h, Int.natAbs_tmod]
  exact Nat.mod_lt _ (by omega)
set_option maxRecDepth 100000 in
theorem s_X11_common_L {g : gT} {h : mh_T} {P : Int64 → mh_T → Prop} (hp : ∀ r, ¬ r = 0 → P r h) : ∀ (n : Nat) (l0 l2 l4 l6 : Int64), ¬ (l4 = 0 ∧ l6 = 0) → l6.toInt.natAbs < n → ME g uX11_common 6 [.long l0, .retAddr 0, .long l2, .retAddr 0, .long l4, .retAddr 0, .long l6, .retAddr 0, .retAddr 0, .retAddr 0] [] h (qL P) := by
  intro n
  induction n with
  | zero => intro l0 l2 l4 l6 _ hm; omega
  | succ n ih =>
    intro l0 l2 l4 l6 h0 hm
    refine r_X11_common_6 l0 l2 l4 l6 ⟨fun c => hp _ (fun z => h0 ⟨z, lg_eq c⟩), fun c => ⟨lg_ne c, fun x3 e3 => ?_⟩⟩
    have := rem_abs (x := l4) (lg_ne c)
    rw [← e3] at this
    exact ih l0 l2 l6 x3 (fun z => lg_ne c z.1) (by omega)
theorem s_X11_common {g : gT} {h : mh_T} {P : Int64 → mh_T → Prop} (l0 l2 : Int64) (hG : GI h) (h0 : ¬ (l0 = 0 ∧ l2 = 0)) (hp : ∀ r, ¬ r = 0 → P r h) : MCl g yX11_common uX11_common [.long l0, .long l2] h P := e_X11_common l0 l2 (s_X11_common_L hp _ l0 l2 l0 l2 h0 (Nat.lt_succ_self _))
theorem s_X11_lowest {g : gT} {h : mh_T} {P : Int32 → mh_T → Prop} (l0 l2 : Int64) (l4 : Int32) (hG : GI h) (h0 : ¬ l2 = 0) (hp : ∀ r, P r h) : MCi g yX11_lowest uX11_lowest [.long l0, .long l2, .int l4] h P := by
  refine e_X11_lowest l0 l2 l4 ?_
  refine s_X11_common l0 l2 hG (fun z => h0 z.2) (fun r hr => ?_)
  first
    | exact ⟨fun _ => ⟨hr, hp _⟩, fun _ => ⟨hr, hp _⟩⟩
    | (intros; exact ⟨fun _ => ⟨hr, hp _⟩, fun _ => ⟨hr, hp _⟩⟩)
set_option maxRecDepth 100000 in
set_option maxHeartbeats 4000000 in
theorem s_X11_isBit {g : gT} {h : mh_T} {P : Int32 → mh_T → Prop} (l0 : Int32) (hG : GI h)  (hp : ∀ r : Int32, R 0 1 r → P r h) : MCi g yX11_isBit uX11_isBit [.int l0] h P := by
  have ok : Ok [] h h := Ok_rf hG
  refine e_X11_isBit l0  ?_
  refine ⟨fun c_12 => ?_, fun c_12 => ?_⟩
  · have f_13 : R 0 0 0 := ⟨by decide, by decide⟩
    have f_14 : R 0 0 l0 := rf_eq f_13 c_12
    have f_15 : R 1 1 1 := ⟨by decide, by decide⟩
    exact hp _ (R_w f_15 (by decide))
  · have f_16 : R 0 0 0 := ⟨by decide, by decide⟩
    refine ⟨fun c_17 => ?_, fun c_17 => ?_⟩
    · have f_18 : R 1 1 1 := ⟨by decide, by decide⟩
      have f_19 : R 0 0 0 := ⟨by decide, by decide⟩
      exact hp _ (R_w f_19 (by decide))
    · have f_20 : R 1 1 1 := ⟨by decide, by decide⟩
      have f_21 : R 1 1 l0 := rf_eq f_20 c_17
      have f_22 : R 1 1 1 := ⟨by decide, by decide⟩
      exact hp _ (R_w f_22 (by decide))
set_option maxRecDepth 100000 in
set_option maxHeartbeats 4000000 in
theorem s_X11_fitsAll_L {g : gT} {h0 : mh_T} {P : Int32 → mh_T → Prop} (hG0 : GI h0) (hp : ∀ r : Int32, R 0 1 r → P r h0) : ∀ n : Nat, (∀ (l1 : Int32) (l2 : Int32) (l3 : Int32) (l4 : Int32), R (-2147483648) 2147483647 l1 → R (-2147483648) 2147483647 l2 → R 0 1 l3 → R 0 8 l4 → 1 * gap 8 l4 + 0 < n → ME g uX11_fitsAll 5 [.ref 11, .int l1, .int l2, .int l3, .int l4] [] h0 (qI P)) := by
  intro n
  induction n with
  | zero =>
    exact (fun _ _ _ _ _ _ _ _ hm => absurd hm (Nat.not_lt_zero _))
  | succ n ih =>
    intro l1 l2 l3 l4  fl1 fl2 fl3 fl4     hm
    have ok : Ok [] h0 h0 := Ok_rf hG0
    refine r_X11_fitsAll_5 l1 l2 l3 l4  ?_
    refine ⟨fun c_350 => ?_, fun c_350 => ?_⟩
    · have f_351 : R 0 8 (mI h0 45 (Int32.toNatClampNeg 0)) := GI_rd ok.1 45 _ (by decide)
      exact ⟨R_z (R_w fl3 (by decide)), hp _ (R_w fl3 (by decide))⟩
    · have f_352 : R 0 8 (mI h0 45 (Int32.toNatClampNeg 0)) := GI_rd ok.1 45 _ (by decide)
      have f_353 : R 0 7 l4 := rf_lt_l fl4 f_352 (nle c_350) 7 (by decide)
      have f_354 : R 1 8 (mI h0 45 (Int32.toNatClampNeg 0)) := rf_lt_r fl4 f_352 (nle c_350) 1 (by decide)
      refine ⟨fun c_355 => ?_, fun c_355 => ?_⟩
      · have f_356 : R 0 0 0 := ⟨by decide, by decide⟩
        have f_357 : R 0 0 l3 := rf_eq f_356 c_355
        have f_358 : R 0 0 0 := ⟨by decide, by decide⟩
        have f_360 : R 1 1 1 := ⟨by decide, by decide⟩
        have f_359 : R 1 8 (l4 + 1) := R_add f_353 f_360 1 8 (by decide)
        have g_361 := gap_inc (N := 8) f_353 (by decide)
        exact ih l1 l2 0 (l4 + 1)  (R_w fl1 (by decide)) (R_w fl2 (by decide)) (R_w f_358 (by decide)) (R_w f_359 (by decide)) (by omega)
      · have f_362 : R 0 0 0 := ⟨by decide, by decide⟩
        have f_363 : R 1 1 l3 := rf_ne_lo fl3 c_355 (by decide) 1 rfl
        refine ⟨fun c_364 => ?_, fun c_364 => ?_⟩
        · have f_365 : R 0 7 l2 := rf_eq' f_353 c_364
          have f_366 : R 1 1 1 := ⟨by decide, by decide⟩
          have f_368 : R 1 1 1 := ⟨by decide, by decide⟩
          have f_367 : R 1 8 (l4 + 1) := R_add f_353 f_368 1 8 (by decide)
          have g_369 := gap_inc (N := 8) f_353 (by decide)
          exact ih l1 l2 1 (l4 + 1)  (R_w fl1 (by decide)) (R_w f_365 (by decide)) (R_w f_366 (by decide)) (R_w f_367 (by decide)) (by omega)
        · refine s_X11_fitted l4 l1 ok.1 (R_w f_353 (by decide)) (fun r5 f_370 => ?_)
          have f_373 : R 17 17 17 := ⟨by decide, by decide⟩
          have f_375 : R 4 4 4 := ⟨by decide, by decide⟩
          have f_374 : R 0 28 (4 * l4) := R_mul f_375 f_353 0 28 (by decide)
          have f_372 : R 17 45 (17 + (4 * l4)) := R_add f_373 f_374 17 45 (by decide)
          have f_371 : R 17 48 ((17 + (4 * l4)) + r5) := R_add f_372 f_370 17 48 (by decide)
          refine ⟨vin f_371 (by decide), ?_⟩
          refine ⟨fun c_376 => ?_, fun c_376 => ?_⟩
          · have f_377 : R (-2147483648) 2147483647 (mI h0 45 ((17 + (4 * l4)) + r5).toNatClampNeg) := R_full _
            have f_378 : R 0 0 0 := ⟨by decide, by decide⟩
            have f_379 : R (-2147483648) 0 (mI h0 45 ((17 + (4 * l4)) + r5).toNatClampNeg) := rf_le_l f_377 f_378 c_376 0 (by decide)
            have f_380 : R 0 0 0 := ⟨by decide, by decide⟩
            have f_382 : R 1 1 1 := ⟨by decide, by decide⟩
            have f_381 : R 1 8 (l4 + 1) := R_add f_353 f_382 1 8 (by decide)
            have g_383 := gap_inc (N := 8) f_353 (by decide)
            exact ih l1 l2 0 (l4 + 1)  (R_w fl1 (by decide)) (R_w fl2 (by decide)) (R_w f_380 (by decide)) (R_w f_381 (by decide)) (by omega)
          · have f_384 : R (-2147483648) 2147483647 (mI h0 45 ((17 + (4 * l4)) + r5).toNatClampNeg) := R_full _
            have f_385 : R 0 0 0 := ⟨by decide, by decide⟩
            have f_386 : R 1 2147483647 (mI h0 45 ((17 + (4 * l4)) + r5).toNatClampNeg) := rf_lt_r f_385 f_384 (nle c_376) 1 (by decide)
            have f_387 : R 1 1 1 := ⟨by decide, by decide⟩
            have f_389 : R 1 1 1 := ⟨by decide, by decide⟩
            have f_388 : R 1 8 (l4 + 1) := R_add f_353 f_389 1 8 (by decide)
            have g_390 := gap_inc (N := 8) f_353 (by decide)
            exact ih l1 l2 1 (l4 + 1)  (R_w fl1 (by decide)) (R_w fl2 (by decide)) (R_w f_387 (by decide)) (R_w f_388 (by decide)) (by omega)
set_option maxRecDepth 100000 in
set_option maxHeartbeats 4000000 in
theorem s_X11_fitsAll {g : gT} {h : mh_T} {P : Int32 → mh_T → Prop} (l1 : Int32) (l2 : Int32) (hG : GI h)  (hp : ∀ r : Int32, R 0 1 r → P r h) : MCi g yX11_fitsAll uX11_fitsAll [.ref 11, .int l1, .int l2] h P := by
  have ok : Ok [] h h := Ok_rf hG
  have L0 := s_X11_fitsAll_L (g := g) hG hp 9
  refine e_X11_fitsAll l1 l2  ?_
  have f_391 : R 1 1 1 := ⟨by decide, by decide⟩
  have f_392 : R 0 0 0 := ⟨by decide, by decide⟩
  have f_393 : R 0 0 0 := ⟨by decide, by decide⟩
  have g_394 := gap_le (N := 8) f_393 (m := 8) (by decide)
  exact L0 l1 l2 1 0  (R_w (R_full l1) (by decide)) (R_w (R_full l2) (by decide)) (R_w f_391 (by decide)) (R_w f_392 (by decide)) (by omega)
set_option maxRecDepth 100000 in
set_option maxHeartbeats 4000000 in
theorem s_X11_doesExtend_L {g : gT} {h0 : mh_T} {P : Int32 → mh_T → Prop} (hG0 : GI h0) (hp : ∀ r : Int32, R 0 1 r → P r h0) : ∀ n : Nat, (∀ (l1 : Int32) (l2 : Int32) (l3 : Int32) (l4 : Int32), R 0 7 l1 → R (-2147483648) 2147483647 l2 → R 0 1 l3 → R 0 64 l4 → 1 * gap 64 l4 + 0 < n → ME g uX11_doesExtend 5 [.ref 11, .int l1, .int l2, .int l3, .int l4] [] h0 (qI P)) := by
  intro n
  induction n with
  | zero =>
    exact (fun _ _ _ _ _ _ _ _ hm => absurd hm (Nat.not_lt_zero _))
  | succ n ih =>
    intro l1 l2 l3 l4  fl1 fl2 fl3 fl4     hm
    have ok : Ok [] h0 h0 := Ok_rf hG0
    refine r_X11_doesExtend_5 l1 l2 l3 l4  ?_
    refine s_X11_hiddenMany ok.1 (fun r2 f_926 => ?_)
    refine ⟨fun c_927 => ?_, fun c_927 => ?_⟩
    · have f_928 : R 1 64 l4 := rf_le_r f_926 fl4 c_927 1 (by decide)
      exact ⟨R_z (R_w fl3 (by decide)), hp _ (R_w fl3 (by decide))⟩
    · have f_929 : R 0 63 l4 := rf_lt_l fl4 f_926 (nle c_927) 63 (by decide)
      refine ⟨fun c_930 => ?_, fun c_930 => ?_⟩
      · have f_931 : R 0 0 0 := ⟨by decide, by decide⟩
        have f_932 : R 1 1 l3 := rf_ne_lo fl3 c_930 (by decide) 1 rfl
        have f_933 : R 1 1 1 := ⟨by decide, by decide⟩
        have f_935 : R 1 1 1 := ⟨by decide, by decide⟩
        have f_934 : R 1 64 (l4 + 1) := R_add f_929 f_935 1 64 (by decide)
        have g_936 := gap_inc (N := 64) f_929 (by decide)
        exact ih l1 l2 1 (l4 + 1)  (R_w fl1 (by decide)) (R_w fl2 (by decide)) (R_w f_933 (by decide)) (R_w f_934 (by decide)) (by omega)
      · have f_937 : R 0 0 0 := ⟨by decide, by decide⟩
        have f_938 : R 0 0 l3 := rf_eq f_937 c_930
        refine s_X11_fitted l1 l4 ok.1 (R_w fl1 (by decide)) (fun r6 f_939 => ?_)
        refine ⟨fun c_940 => ?_, fun c_940 => ?_⟩
        · have f_941 : R 0 0 0 := ⟨by decide, by decide⟩
          have f_943 : R 1 1 1 := ⟨by decide, by decide⟩
          have f_942 : R 1 64 (l4 + 1) := R_add f_929 f_943 1 64 (by decide)
          have g_944 := gap_inc (N := 64) f_929 (by decide)
          exact ih l1 l2 0 (l4 + 1)  (R_w fl1 (by decide)) (R_w fl2 (by decide)) (R_w f_941 (by decide)) (R_w f_942 (by decide)) (by omega)
        · have f_945 : R 0 3 l2 := rf_eq' f_939 c_940
          refine s_X11_fitsAll l4 l1 ok.1 (fun r9 f_946 => ?_)
          refine ⟨fun c_947 => ?_, fun c_947 => ?_⟩
          · have f_948 : R 0 0 0 := ⟨by decide, by decide⟩
            have f_949 : R 0 0 r9 := rf_eq f_948 c_947
            have f_950 : R 0 0 0 := ⟨by decide, by decide⟩
            have f_952 : R 1 1 1 := ⟨by decide, by decide⟩
            have f_951 : R 1 64 (l4 + 1) := R_add f_929 f_952 1 64 (by decide)
            have g_953 := gap_inc (N := 64) f_929 (by decide)
            exact ih l1 l2 0 (l4 + 1)  (R_w fl1 (by decide)) (R_w f_945 (by decide)) (R_w f_950 (by decide)) (R_w f_951 (by decide)) (by omega)
          · have f_954 : R 0 0 0 := ⟨by decide, by decide⟩
            have f_955 : R 1 1 r9 := rf_ne_lo f_946 c_947 (by decide) 1 rfl
            have f_956 : R 1 1 1 := ⟨by decide, by decide⟩
            have f_958 : R 1 1 1 := ⟨by decide, by decide⟩
            have f_957 : R 1 64 (l4 + 1) := R_add f_929 f_958 1 64 (by decide)
            have g_959 := gap_inc (N := 64) f_929 (by decide)
            exact ih l1 l2 1 (l4 + 1)  (R_w fl1 (by decide)) (R_w f_945 (by decide)) (R_w f_956 (by decide)) (R_w f_957 (by decide)) (by omega)
set_option maxRecDepth 100000 in
set_option maxHeartbeats 4000000 in
theorem s_X11_doesExtend {g : gT} {h : mh_T} {P : Int32 → mh_T → Prop} (l1 : Int32) (l2 : Int32) (hG : GI h) (fl1 : R 0 7 l1) (hp : ∀ r : Int32, R 0 1 r → P r h) : MCi g yX11_doesExtend uX11_doesExtend [.ref 11, .int l1, .int l2] h P := by
  have ok : Ok [] h h := Ok_rf hG
  have L0 := s_X11_doesExtend_L (g := g) hG hp 65
  refine e_X11_doesExtend l1 l2  ?_
  have f_960 : R 0 0 0 := ⟨by decide, by decide⟩
  have f_961 : R 0 0 0 := ⟨by decide, by decide⟩
  have f_962 : R 0 0 0 := ⟨by decide, by decide⟩
  have g_963 := gap_le (N := 64) f_962 (m := 64) (by decide)
  exact L0 l1 l2 0 0  (R_w fl1 (by decide)) (R_w (R_full l2) (by decide)) (R_w f_960 (by decide)) (R_w f_961 (by decide)) (by omega)
set_option maxRecDepth 100000 in
set_option maxHeartbeats 4000000 in
theorem s_X11_extend {g : gT} {h : mh_T} {P : Int32 → mh_T → Prop} (l1 : Int32) (l2 : Int32) (hG : GI h)  (hp : ∀ (r : Int32) h', Ok [300, 11] h h' → R (-1) 1 r → ¬ mI h' 11 11 = 4 → P r h') : MCi g yX11_extend uX11_extend [.ref 11, .int l1, .int l2] h P := by
  have ok : Ok [300, 11] h h := Ok_rf hG
  refine e_X11_extend l1 l2  ?_
  refine s_X11_good ok.1 (fun h1 ko_23 t4 => ?_)
  have ok_24 := Ok_tr ok ko_23 (by decide)
  have hp : ∀ (r : Int32) h', Ok [300, 11] h1 h' → R (-1) 1 r → P r h' := fun r h' k x0 => hp r h' (Ok_tr ok_24 k (by decide)) x0 (k.2.2.2.2.2.2.1 t4)
  have ok_24 : Ok [300, 11] h1 h1 := Ok_rf ok_24.1
  refine s_X11_isOutcome l1 l2 ok_24.1 (fun r3 f_26 im_25 => ?_)
  refine ⟨fun c_27 => ?_, fun c_27 => ?_⟩
  · have f_28 : R 0 0 0 := ⟨by decide, by decide⟩
    have f_29 : R 0 0 r3 := rf_eq f_28 c_27
    refine s_X11_no 1 ok_24.1 (fun r6 h5 ko_30 f_32 => ?_)
    have ok_31 := Ok_tr ok_24 ko_30 (by decide)
    exact hp _ _ ok_31 (R_w f_32 (by decide))
  · have f_33 : R 0 0 0 := ⟨by decide, by decide⟩
    have f_34 := (im_25 c_27).1
    have f_35 := (im_25 c_27).2
    have f_36 : R 1 1 r3 := rf_ne_lo f_26 c_27 (by decide) 1 rfl
    refine s_X11_doesExtend l1 l2 ok_24.1 (R_w f_34 (by decide)) (fun r8 f_37 => ?_)
    refine ⟨fun c_38 => ?_, fun c_38 => ?_⟩
    · have f_39 : R 0 0 0 := ⟨by decide, by decide⟩
      have f_40 : R 0 0 r8 := rf_eq f_39 c_38
      have f_41 : R 0 0 0 := ⟨by decide, by decide⟩
      exact hp _ _ ok_24 (R_w f_41 (by decide))
    · have f_42 : R 0 0 0 := ⟨by decide, by decide⟩
      have f_43 : R 1 1 r8 := rf_ne_lo f_37 c_38 (by decide) 1 rfl
      have f_44 : R 1 1 1 := ⟨by decide, by decide⟩
      exact hp _ _ ok_24 (R_w f_44 (by decide))
set_option maxRecDepth 100000 in
set_option maxHeartbeats 4000000 in
theorem s_X11_fittingAnswer_L {g : gT} {h0 : mh_T} {P : Int32 → mh_T → Prop} (hG0 : GI h0) (hp : ∀ r : Int32, P r h0) : ∀ n : Nat, (∀ (l1 : Int32) (l2 : Int32) (l3 : Int32), R (-2147483648) 2147483647 l1 → R (-2147483648) 2147483647 l2 → R 0 64 l3 → 1 * gap 64 l3 + 0 < n → ME g uX11_fittingAnswer 4 [.ref 11, .int l1, .int l2, .int l3] [] h0 (qI P)) := by
  intro n
  induction n with
  | zero =>
    exact (fun _ _ _ _ _ _ hm => absurd hm (Nat.not_lt_zero _))
  | succ n ih =>
    intro l1 l2 l3  fl1 fl2 fl3     hm
    have ok : Ok [] h0 h0 := Ok_rf hG0
    refine r_X11_fittingAnswer_4 l1 l2 l3  ?_
    refine s_X11_hiddenMany ok.1 (fun r2 f_1209 => ?_)
    refine ⟨fun c_1210 => ?_, fun c_1210 => ?_⟩
    · have f_1211 : R 1 64 l3 := rf_le_r f_1209 fl3 c_1210 1 (by decide)
      have f_1213 : R 1000 1000 1000 := ⟨by decide, by decide⟩
      have f_1212 : R (-2147483648) 2147483647 (l2 - 1000) := R_full _
      exact hp _ 
    · have f_1214 : R 0 63 l3 := rf_lt_l fl3 f_1209 (nle c_1210) 63 (by decide)
      refine s_X11_fitsAll l3 (-1) ok.1 (fun r5 f_1215 => ?_)
      refine ⟨fun c_1216 => ?_, fun c_1216 => ?_⟩
      · have f_1217 : R 0 0 0 := ⟨by decide, by decide⟩
        have f_1218 : R 1 1 r5 := rf_ne_lo f_1215 c_1216 (by decide) 1 rfl
        refine ⟨fun c_1219 => ?_, fun c_1219 => ?_⟩
        · have f_1221 : R 1 1 1 := ⟨by decide, by decide⟩
          have f_1220 : R (-2147483648) 2147483647 (l2 + 1) := R_full _
          have f_1223 : R 1 1 1 := ⟨by decide, by decide⟩
          have f_1222 : R 1 64 (l3 + 1) := R_add f_1214 f_1223 1 64 (by decide)
          have g_1224 := gap_inc (N := 64) f_1214 (by decide)
          exact ih l1 (l2 + 1) (l3 + 1)  (R_w fl1 (by decide)) (R_w f_1220 (by decide)) (R_w f_1222 (by decide)) (by omega)
        · exact hp _ 
      · have f_1225 : R 0 0 0 := ⟨by decide, by decide⟩
        have f_1226 : R 0 0 r5 := rf_eq f_1225 c_1216
        have f_1228 : R 1 1 1 := ⟨by decide, by decide⟩
        have f_1227 : R 1 64 (l3 + 1) := R_add f_1214 f_1228 1 64 (by decide)
        have g_1229 := gap_inc (N := 64) f_1214 (by decide)
        exact ih l1 l2 (l3 + 1)  (R_w fl1 (by decide)) (R_w fl2 (by decide)) (R_w f_1227 (by decide)) (by omega)
set_option maxRecDepth 100000 in
set_option maxHeartbeats 4000000 in
theorem s_X11_fittingAnswer {g : gT} {h : mh_T} {P : Int32 → mh_T → Prop} (l1 : Int32) (hG : GI h)  (hp : ∀ r : Int32, P r h) : MCi g yX11_fittingAnswer uX11_fittingAnswer [.ref 11, .int l1] h P := by
  have ok : Ok [] h h := Ok_rf hG
  have L0 := s_X11_fittingAnswer_L (g := g) hG hp 65
  refine e_X11_fittingAnswer l1  ?_
  have f_1230 : R 0 0 0 := ⟨by decide, by decide⟩
  have f_1231 : R 0 0 0 := ⟨by decide, by decide⟩
  have f_1232 : R 0 0 0 := ⟨by decide, by decide⟩
  have g_1233 := gap_le (N := 64) f_1232 (m := 64) (by decide)
  exact L0 l1 0 0  (R_w (R_full l1) (by decide)) (R_w f_1230 (by decide)) (R_w f_1231 (by decide)) (by omega)
set_option maxRecDepth 100000 in
set_option maxHeartbeats 4000000 in
theorem s_X11_hidden {g : gT} {h : mh_T} {P : Int32 → mh_T → Prop}  (hG : GI h)  (hp : ∀ (r : Int32) h', Ok [300, 11] h h' → ¬ mI h' 11 11 = 4 → P r h') : MCi g yX11_hidden uX11_hidden [.ref 11] h P := by
  have ok : Ok [300, 11] h h := Ok_rf hG
  refine e_X11_hidden   ?_
  refine s_X11_good ok.1 (fun h1 ko_16 t4 => ?_)
  have ok_17 := Ok_tr ok ko_16 (by decide)
  have hp : ∀ (r : Int32) h', Ok [300, 11] h1 h' → P r h' := fun r h' k => hp r h' (Ok_tr ok_17 k (by decide)) (k.2.2.2.2.2.2.1 t4)
  have ok_17 : Ok [300, 11] h1 h1 := Ok_rf ok_17.1
  refine ⟨fun c_18 => ?_, fun c_18 => ?_⟩
  · have f_19 : R 0 1 (mI h1 11 14) := GI_rd ok_17.1 11 _ (by decide)
    have f_20 : R 0 0 0 := ⟨by decide, by decide⟩
    have f_21 : R 0 0 (mI h1 11 14) := rf_eq f_20 c_18
    refine s_X11_no 1 ok_17.1 (fun r4 h3 ko_22 f_24 => ?_)
    have ok_23 := Ok_tr ok_17 ko_22 (by decide)
    exact hp _ _ ok_23 
  · have f_25 : R 0 1 (mI h1 11 14) := GI_rd ok_17.1 11 _ (by decide)
    have f_26 : R 0 0 0 := ⟨by decide, by decide⟩
    have f_27 : R 1 1 (mI h1 11 14) := rf_ne_lo f_25 c_18 (by decide) 1 rfl
    refine s_X11_fittingAnswer (-1) ok_17.1 (fun r6 => ?_)
    have f_29 : R (-2147483648) 2147483647 r6 := R_full _
    have f_30 : R 1000 1000 1000 := ⟨by decide, by decide⟩
    have f_28 : R (-2147483648) 2147483647 (r6 + 1000) := R_full _
    exact hp _ _ ok_17 
set_option maxRecDepth 100000 in
set_option maxHeartbeats 4000000 in
theorem s_X11_answer {g : gT} {h : mh_T} {P : Int32 → mh_T → Prop} (l1 : Int32) (hG : GI h)  (hp : ∀ (r : Int32) h', Ok [300, 11] h h' → R (-1) 2147483647 r → ¬ mI h' 11 11 = 4 → P r h') : MCi g yX11_answer uX11_answer [.ref 11, .int l1] h P := by
  have ok : Ok [300, 11] h h := Ok_rf hG
  refine e_X11_answer l1  ?_
  refine s_X11_good ok.1 (fun h1 ko_31 t4 => ?_)
  have ok_32 := Ok_tr ok ko_31 (by decide)
  have hp : ∀ (r : Int32) h', Ok [300, 11] h1 h' → R (-1) 2147483647 r → P r h' := fun r h' k x0 => hp r h' (Ok_tr ok_32 k (by decide)) x0 (k.2.2.2.2.2.2.1 t4)
  have ok_32 : Ok [300, 11] h1 h1 := Ok_rf ok_32.1
  refine ⟨fun c_33 => ?_, fun c_33 => ?_⟩
  · have f_34 : R 0 1 (mI h1 11 14) := GI_rd ok_32.1 11 _ (by decide)
    have f_35 : R 0 0 0 := ⟨by decide, by decide⟩
    have f_36 : R 0 0 (mI h1 11 14) := rf_eq f_35 c_33
    refine s_X11_no 1 ok_32.1 (fun r4 h3 ko_37 f_39 => ?_)
    have ok_38 := Ok_tr ok_32 ko_37 (by decide)
    exact hp _ _ ok_38 (R_w f_39 (by decide))
  · have f_40 : R 0 1 (mI h1 11 14) := GI_rd ok_32.1 11 _ (by decide)
    have f_41 : R 0 0 0 := ⟨by decide, by decide⟩
    have f_42 : R 1 1 (mI h1 11 14) := rf_ne_lo f_40 c_33 (by decide) 1 rfl
    refine ⟨fun c_43 => ?_, fun c_43 => ?_⟩
    · have f_44 : R 0 0 0 := ⟨by decide, by decide⟩
      have f_45 : R 0 2147483647 l1 := rf_le_r f_44 (R_full l1) c_43 0 (by decide)
      refine s_X11_fittingAnswer l1 ok_32.1 (fun r7 => ?_)
      refine ⟨fun c_46 => ?_, fun c_46 => ?_⟩
      · have f_47 : R (-2147483648) 2147483647 r7 := R_full _
        have f_48 : R 0 0 0 := ⟨by decide, by decide⟩
        have f_49 : R 0 2147483647 r7 := rf_le_r f_48 f_47 c_46 0 (by decide)
        exact hp _ _ ok_32 (R_w f_49 (by decide))
      · have f_50 : R (-2147483648) 2147483647 r7 := R_full _
        have f_51 : R 0 0 0 := ⟨by decide, by decide⟩
        have f_52 : R (-2147483648) (-1) r7 := rf_lt_l f_50 f_51 (nle c_46) (-1) (by decide)
        refine s_X11_no 1 ok_32.1 (fun r10 h9 ko_53 f_55 => ?_)
        have ok_54 := Ok_tr ok_32 ko_53 (by decide)
        exact hp _ _ ok_54 (R_w f_55 (by decide))
    · have f_56 : R 0 0 0 := ⟨by decide, by decide⟩
      have f_57 : R (-2147483648) (-1) l1 := rf_lt_l (R_full l1) f_56 (nle c_43) (-1) (by decide)
      refine s_X11_no 1 ok_32.1 (fun r12 h11 ko_58 f_60 => ?_)
      have ok_59 := Ok_tr ok_32 ko_58 (by decide)
      exact hp _ _ ok_59 (R_w f_60 (by decide))
set_option maxRecDepth 100000 in
set_option maxHeartbeats 4000000 in
theorem s_X11_onesOf {g : gT} {h : mh_T} {P : Int32 → mh_T → Prop} (l1 : Int32) (l2 : Int32) (hG : GI h) (fl1 : R 0 7 l1) (hp : ∀ r : Int32, P r h) : MCi g yX11_onesOf uX11_onesOf [.ref 11, .int l1, .int l2] h P := by
  have ok : Ok [] h h := Ok_rf hG
  refine e_X11_onesOf l1 l2  ?_
  intro x1 ex1
  have f_49 : R 17 17 17 := ⟨by decide, by decide⟩
  have f_51 : R 4 4 4 := ⟨by decide, by decide⟩
  have f_50 : R 0 28 (4 * l1) := R_mul f_51 fl1 0 28 (by decide)
  have f_48 : R 17 45 (17 + (4 * l1)) := R_add f_49 f_50 17 45 (by decide)
  have f_52 : R 17 45 x1 := rf_eq f_48 ex1
  have f_54 : R 9 9 9 := ⟨by decide, by decide⟩
  have f_53 : R 9 16 (9 + l1) := R_add f_54 fl1 9 16 (by decide)
  refine ⟨vin f_53 (by decide), ?_⟩
  refine ⟨fun c_55 => ?_, fun c_55 => ?_⟩
  · have f_56 : R (-2) 5 (mI h 45 (9 + l1).toNatClampNeg) := GI_rd ok.1 45 _ (rgp_45_2 (ix_ge f_53 (by decide)) (ix_le f_53 (by decide)))
    have f_57 : R (-2) (-2) (-2) := ⟨by decide, by decide⟩
    have f_58 : R (-1) 5 (mI h 45 (9 + l1).toNatClampNeg) := rf_ne_lo f_56 c_55 (by decide) (-1) rfl
    have f_60 : R 1 1 1 := ⟨by decide, by decide⟩
    have f_59 : R 1 8 (1 + l1) := R_add f_60 fl1 1 8 (by decide)
    refine ⟨vin f_59 (by decide), ?_⟩
    refine ⟨fun c_61 => ?_, fun c_61 => ?_⟩
    · have f_62 : R (-1) 5 (mI h 45 (1 + l1).toNatClampNeg) := GI_rd ok.1 45 _ (rgp_45_1 (ix_ge f_59 (by decide)) (ix_le f_59 (by decide)))
      refine ⟨vin f_53 (by decide), ?_⟩
      refine ⟨fun c_63 => ?_, fun c_63 => ?_⟩
      · have f_64 : R (-1) (-1) (-1) := ⟨by decide, by decide⟩
        exact hp _ 
      · have f_65 : R (-1) 5 l2 := rf_eq' f_58 c_63
        have f_67 : R 1 1 1 := ⟨by decide, by decide⟩
        have f_66 : R 18 46 (x1 + 1) := R_add f_52 f_67 18 46 (by decide)
        refine ⟨vin f_66 (by decide), ?_⟩
        have f_69 : R 3 3 3 := ⟨by decide, by decide⟩
        have f_68 : R 20 48 (x1 + 3) := R_add f_52 f_69 20 48 (by decide)
        refine ⟨vin f_68 (by decide), ?_⟩
        have f_71 : R (-2147483648) 2147483647 (mI h 45 (x1 + 1).toNatClampNeg) := R_full _
        have f_72 : R (-2147483648) 2147483647 (mI h 45 (x1 + 3).toNatClampNeg) := R_full _
        have f_70 : R (-2147483648) 2147483647 ((mI h 45 (x1 + 1).toNatClampNeg) + (mI h 45 (x1 + 3).toNatClampNeg)) := R_full _
        exact hp _ 
    · have f_73 : R (-1) 5 (mI h 45 (1 + l1).toNatClampNeg) := GI_rd ok.1 45 _ (rgp_45_1 (ix_ge f_59 (by decide)) (ix_le f_59 (by decide)))
      have f_74 : R (-1) 5 l2 := rf_eq' f_73 c_61
      have f_76 : R 2 2 2 := ⟨by decide, by decide⟩
      have f_75 : R 19 47 (x1 + 2) := R_add f_52 f_76 19 47 (by decide)
      refine ⟨vin f_75 (by decide), ?_⟩
      have f_78 : R 3 3 3 := ⟨by decide, by decide⟩
      have f_77 : R 20 48 (x1 + 3) := R_add f_52 f_78 20 48 (by decide)
      refine ⟨vin f_77 (by decide), ?_⟩
      have f_80 : R (-2147483648) 2147483647 (mI h 45 (x1 + 2).toNatClampNeg) := R_full _
      have f_81 : R (-2147483648) 2147483647 (mI h 45 (x1 + 3).toNatClampNeg) := R_full _
      have f_79 : R (-2147483648) 2147483647 ((mI h 45 (x1 + 2).toNatClampNeg) + (mI h 45 (x1 + 3).toNatClampNeg)) := R_full _
      exact hp _ 
  · have f_82 : R (-2) 5 (mI h 45 (9 + l1).toNatClampNeg) := GI_rd ok.1 45 _ (rgp_45_2 (ix_ge f_53 (by decide)) (ix_le f_53 (by decide)))
    have f_83 : R (-2) (-2) (-2) := ⟨by decide, by decide⟩
    have f_84 : R (-2) (-2) (mI h 45 (9 + l1).toNatClampNeg) := rf_eq f_83 c_55
    have f_86 : R 1 1 1 := ⟨by decide, by decide⟩
    have f_85 : R 1 8 (1 + l1) := R_add f_86 fl1 1 8 (by decide)
    refine ⟨vin f_85 (by decide), ?_⟩
    refine ⟨fun c_87 => ?_, fun c_87 => ?_⟩
    · have f_88 : R (-1) 5 (mI h 45 (1 + l1).toNatClampNeg) := GI_rd ok.1 45 _ (rgp_45_1 (ix_ge f_85 (by decide)) (ix_le f_85 (by decide)))
      have f_89 : R (-1) (-1) (-1) := ⟨by decide, by decide⟩
      exact hp _ 
    · have f_90 : R (-1) 5 (mI h 45 (1 + l1).toNatClampNeg) := GI_rd ok.1 45 _ (rgp_45_1 (ix_ge f_85 (by decide)) (ix_le f_85 (by decide)))
      have f_91 : R (-1) 5 l2 := rf_eq' f_90 c_87
      have f_93 : R 1 1 1 := ⟨by decide, by decide⟩
      have f_92 : R 18 46 (x1 + 1) := R_add f_52 f_93 18 46 (by decide)
      refine ⟨vin f_92 (by decide), ?_⟩
      have f_94 : R (-2147483648) 2147483647 (mI h 45 (x1 + 1).toNatClampNeg) := R_full _
      exact hp _ 
set_option maxRecDepth 100000 in
set_option maxHeartbeats 4000000 in
theorem s_X11_disturbed_L {g : gT} {h0 : mh_T} {P : Int32 → mh_T → Prop} (hG0 : GI h0) (hp : ∀ (r : Int32) h', Ok [300, 11] h0 h' → R (-2) 5 r → P r h') : ∀ n : Nat, (∀ (l1 : Int32) (h : mh_T), Ok [300, 11] h0 h → R 0 6 l1 → 10 * gap 6 l1 + 9 < n → ME g uX11_disturbed 19 [.ref 11, .int l1, .retAddr 0, .retAddr 0, .retAddr 0] [] h (qI P)) ∧ (∀ (l1 : Int32) (l2 : Int32) (l3 : Int32) (h : mh_T), Ok [300, 11] h0 h → R 0 5 l1 → R (-1) 2147483647 l2 → R 0 8 l3 → 1 * gap 8 l3 + 10 * gap 6 l1 + 0 < n → ME g uX11_disturbed 34 [.ref 11, .int l1, .int l2, .int l3, .retAddr 0] [] h (qI P)) := by
  intro n
  induction n with
  | zero =>
    exact ⟨(fun _ _ _ _ hm => absurd hm (Nat.not_lt_zero _)), (fun _ _ _ _ _ _ _ _ hm => absurd hm (Nat.not_lt_zero _))⟩
  | succ n ih =>
    refine ⟨?_, ?_⟩
    · intro l1 h  ok fl1     hm
      refine r_X11_disturbed_19 l1  ?_
      refine ⟨fun c_735 => ?_, fun c_735 => ?_⟩
      · have f_736 : R 0 6 (mI h 45 (Int32.toNatClampNeg 50)) := GI_rd ok.1 45 _ (by decide)
        have f_737 : R (-2) (-2) (-2) := ⟨by decide, by decide⟩
        exact hp _ _ ok (R_w f_737 (by decide))
      · have f_738 : R 0 6 (mI h 45 (Int32.toNatClampNeg 50)) := GI_rd ok.1 45 _ (by decide)
        have f_739 : R 0 5 l1 := rf_lt_l fl1 f_738 (nle c_735) 5 (by decide)
        have f_740 : R 1 6 (mI h 45 (Int32.toNatClampNeg 50)) := rf_lt_r fl1 f_738 (nle c_735) 1 (by decide)
        have f_741 : R (-1) (-1) (-1) := ⟨by decide, by decide⟩
        have f_742 : R 0 0 0 := ⟨by decide, by decide⟩
        have f_743 : R 0 0 0 := ⟨by decide, by decide⟩
        have g_744 := gap_le (N := 8) f_743 (m := 8) (by decide)
        exact (ih.2) l1 (-1) 0 h  ok (R_w f_739 (by decide)) (R_w f_741 (by decide)) (R_w f_742 (by decide)) (by omega)
    · intro l1 l2 l3 h  ok fl1 fl2 fl3     hm
      refine r_X11_disturbed_34 l1 l2 l3  ?_
      refine ⟨fun c_745 => ?_, fun c_745 => ?_⟩
      · have f_746 : R 0 8 (mI h 45 (Int32.toNatClampNeg 0)) := GI_rd ok.1 45 _ (by decide)
        have f_748 : R 1 1 1 := ⟨by decide, by decide⟩
        have f_747 : R 1 6 (l1 + 1) := R_add fl1 f_748 1 6 (by decide)
        have g_749 := gap_inc (N := 6) fl1 (by decide)
        exact (ih.1) (l1 + 1) h  ok (R_w f_747 (by decide)) (by omega)
      · have f_750 : R 0 8 (mI h 45 (Int32.toNatClampNeg 0)) := GI_rd ok.1 45 _ (by decide)
        have f_751 : R 0 7 l3 := rf_lt_l fl3 f_750 (nle c_745) 7 (by decide)
        have f_752 : R 1 8 (mI h 45 (Int32.toNatClampNeg 0)) := rf_lt_r fl3 f_750 (nle c_745) 1 (by decide)
        refine s_X11_onesOf l3 l1 ok.1 (R_w f_751 (by decide)) (fun r3 => ?_)
        refine ⟨fun c_753 => ?_, fun c_753 => ?_⟩
        · have f_754 : R (-2147483648) 2147483647 r3 := R_full _
          have f_755 : R 0 0 0 := ⟨by decide, by decide⟩
          have f_756 : R (-2147483648) (-1) r3 := rf_lt_l f_754 f_755 c_753 (-1) (by decide)
          refine ⟨fun c_757 => ?_, fun c_757 => ?_⟩
          · have f_758 : R 0 0 0 := ⟨by decide, by decide⟩
            have f_760 : R 1 1 1 := ⟨by decide, by decide⟩
            have f_759 : R 1 8 (l3 + 1) := R_add f_751 f_760 1 8 (by decide)
            have g_761 := gap_inc (N := 8) f_751 (by decide)
            exact (ih.2) l1 l2 (l3 + 1) h  ok (R_w fl1 (by decide)) (R_w fl2 (by decide)) (R_w f_759 (by decide)) (by omega)
          · have f_762 : R 0 0 0 := ⟨by decide, by decide⟩
            have f_763 := rf_le_l f_762 f_756 (nlt c_757) (-1) (by decide)
            exact (R_abs f_763 (by decide)).elim
        · have f_764 : R (-2147483648) 2147483647 r3 := R_full _
          have f_765 : R 0 0 0 := ⟨by decide, by decide⟩
          have f_766 : R 0 2147483647 r3 := rf_le_r f_765 f_764 (nlt c_753) 0 (by decide)
          refine ⟨fun c_767 => ?_, fun c_767 => ?_⟩
          · have f_768 : R 0 0 0 := ⟨by decide, by decide⟩
            have f_769 : R (-1) (-1) l2 := rf_lt_l fl2 f_768 c_767 (-1) (by decide)
            refine ⟨fun c_770 => ?_, fun c_770 => ?_⟩
            · have f_771 : R 0 0 0 := ⟨by decide, by decide⟩
              have f_772 : R 0 (-1) r3 := rf_lt_l f_766 f_771 c_770 (-1) (by decide)
              exact (R_abs f_772 (by decide)).elim
            · have f_773 : R 0 0 0 := ⟨by decide, by decide⟩
              have f_775 : R 1 1 1 := ⟨by decide, by decide⟩
              have f_774 : R 1 8 (l3 + 1) := R_add f_751 f_775 1 8 (by decide)
              have g_776 := gap_inc (N := 8) f_751 (by decide)
              exact (ih.2) l1 r3 (l3 + 1) h  ok (R_w fl1 (by decide)) (R_w f_766 (by decide)) (R_w f_774 (by decide)) (by omega)
          · have f_777 : R 0 0 0 := ⟨by decide, by decide⟩
            have f_778 : R 0 2147483647 l2 := rf_le_r f_777 fl2 (nlt c_767) 0 (by decide)
            refine ⟨fun c_779 => ?_, fun c_779 => ?_⟩
            · refine ⟨fun c_780 => ?_, fun c_780 => ?_⟩
              · have f_781 : R 0 0 0 := ⟨by decide, by decide⟩
                have f_782 : R 0 (-1) r3 := rf_lt_l f_766 f_781 c_780 (-1) (by decide)
                exact (R_abs f_782 (by decide)).elim
              · have f_783 : R 0 0 0 := ⟨by decide, by decide⟩
                have f_785 : R 1 1 1 := ⟨by decide, by decide⟩
                have f_784 : R 1 8 (l3 + 1) := R_add f_751 f_785 1 8 (by decide)
                have g_786 := gap_inc (N := 8) f_751 (by decide)
                exact (ih.2) l1 r3 (l3 + 1) h  ok (R_w fl1 (by decide)) (R_w f_766 (by decide)) (R_w f_784 (by decide)) (by omega)
            · exact hp _ _ ok (R_w fl1 (by decide))
set_option maxRecDepth 100000 in
set_option maxHeartbeats 4000000 in
theorem s_X11_disturbed {g : gT} {h : mh_T} {P : Int32 → mh_T → Prop}  (hG : GI h)  (hp : ∀ (r : Int32) h', Ok [300, 11] h h' → R (-2) 5 r → ¬ mI h' 11 11 = 4 → P r h') : MCi g yX11_disturbed uX11_disturbed [.ref 11] h P := by
  have ok : Ok [300, 11] h h := Ok_rf hG
  refine e_X11_disturbed   ?_
  refine s_X11_good ok.1 (fun h1 ko_787 t4 => ?_)
  have ok_788 := Ok_tr ok ko_787 (by decide)
  have hp : ∀ (r : Int32) h', Ok [300, 11] h1 h' → R (-2) 5 r → P r h' := fun r h' k x0 => hp r h' (Ok_tr ok_788 k (by decide)) x0 (k.2.2.2.2.2.2.1 t4)
  have L0 := s_X11_disturbed_L (g := g) ok_788.1 hp 70
  have ok_788 : Ok [300, 11] h1 h1 := Ok_rf ok_788.1
  refine ⟨fun c_789 => ?_, fun c_789 => ?_⟩
  · have f_790 : R 0 1 (mI h1 11 14) := GI_rd ok_788.1 11 _ (by decide)
    have f_791 : R 0 0 0 := ⟨by decide, by decide⟩
    have f_792 : R 1 1 (mI h1 11 14) := rf_ne_lo f_790 c_789 (by decide) 1 rfl
    have f_793 : R 0 0 0 := ⟨by decide, by decide⟩
    have f_794 : R 0 0 0 := ⟨by decide, by decide⟩
    have g_795 := gap_le (N := 6) f_794 (m := 6) (by decide)
    exact (L0.1) 0 h1  ok_788 (R_w f_793 (by decide)) (by omega)
  · have f_796 : R 0 1 (mI h1 11 14) := GI_rd ok_788.1 11 _ (by decide)
    have f_797 : R 0 0 0 := ⟨by decide, by decide⟩
    have f_798 : R 0 0 (mI h1 11 14) := rf_eq f_797 c_789
    refine s_X11_no 1 ok_788.1 (fun r4 h3 ko_799 f_801 => ?_)
    have ok_800 := Ok_tr ok_788 ko_799 (by decide)
    exact hp _ _ ok_800 (R_w f_801 (by decide))
set_option maxRecDepth 100000 in
set_option maxHeartbeats 4000000 in
theorem s_X11_sameOf {g : gT} {h : mh_T} {P : Int32 → mh_T → Prop} (l1 : Int32) (hG : GI h) (fl1 : R 0 7 l1) (hp : ∀ r : Int32, P r h) : MCi g yX11_sameOf uX11_sameOf [.ref 11, .int l1] h P := by
  have ok : Ok [] h h := Ok_rf hG
  refine e_X11_sameOf l1  ?_
  intro x1 ex1
  have f_20 : R 17 17 17 := ⟨by decide, by decide⟩
  have f_22 : R 4 4 4 := ⟨by decide, by decide⟩
  have f_21 : R 0 28 (4 * l1) := R_mul f_22 fl1 0 28 (by decide)
  have f_19 : R 17 45 (17 + (4 * l1)) := R_add f_20 f_21 17 45 (by decide)
  have f_23 : R 17 45 x1 := rf_eq f_19 ex1
  refine ⟨vin f_23 (by decide), ?_⟩
  have f_25 : R 3 3 3 := ⟨by decide, by decide⟩
  have f_24 : R 20 48 (x1 + 3) := R_add f_23 f_25 20 48 (by decide)
  refine ⟨vin f_24 (by decide), ?_⟩
  have f_27 : R 1 1 1 := ⟨by decide, by decide⟩
  have f_26 : R 18 46 (x1 + 1) := R_add f_23 f_27 18 46 (by decide)
  refine ⟨vin f_26 (by decide), ?_⟩
  have f_29 : R 2 2 2 := ⟨by decide, by decide⟩
  have f_28 : R 19 47 (x1 + 2) := R_add f_23 f_29 19 47 (by decide)
  refine ⟨vin f_28 (by decide), ?_⟩
  have f_33 : R (-2147483648) 2147483647 (mI h 45 x1.toNatClampNeg) := R_full _
  have f_34 : R (-2147483648) 2147483647 (mI h 45 (x1 + 3).toNatClampNeg) := R_full _
  have f_32 : R (-2147483648) 2147483647 ((mI h 45 x1.toNatClampNeg) + (mI h 45 (x1 + 3).toNatClampNeg)) := R_full _
  have f_35 : R (-2147483648) 2147483647 (mI h 45 (x1 + 1).toNatClampNeg) := R_full _
  have f_31 : R (-2147483648) 2147483647 (((mI h 45 x1.toNatClampNeg) + (mI h 45 (x1 + 3).toNatClampNeg)) - (mI h 45 (x1 + 1).toNatClampNeg)) := R_full _
  have f_36 : R (-2147483648) 2147483647 (mI h 45 (x1 + 2).toNatClampNeg) := R_full _
  have f_30 : R (-2147483648) 2147483647 ((((mI h 45 x1.toNatClampNeg) + (mI h 45 (x1 + 3).toNatClampNeg)) - (mI h 45 (x1 + 1).toNatClampNeg)) - (mI h 45 (x1 + 2).toNatClampNeg)) := R_full _
  exact hp _ 
set_option maxRecDepth 100000 in
set_option maxHeartbeats 4000000 in
theorem s_X11_same {g : gT} {h : mh_T} {P : Int32 → mh_T → Prop} (l1 : Int32) (hG : GI h)  (hp : ∀ (r : Int32) h', Ok [300, 11] h h' → ¬ mI h' 11 11 = 4 → P r h') : MCi g yX11_same uX11_same [.ref 11, .int l1] h P := by
  have ok : Ok [300, 11] h h := Ok_rf hG
  refine e_X11_same l1  ?_
  refine s_X11_good ok.1 (fun h1 ko_30 t4 => ?_)
  have ok_31 := Ok_tr ok ko_30 (by decide)
  have hp : ∀ (r : Int32) h', Ok [300, 11] h1 h' → P r h' := fun r h' k => hp r h' (Ok_tr ok_31 k (by decide)) (k.2.2.2.2.2.2.1 t4)
  have ok_31 : Ok [300, 11] h1 h1 := Ok_rf ok_31.1
  refine s_X11_isSet l1 ok_31.1 (fun r3 f_33 im_32 => ?_)
  refine ⟨fun c_34 => ?_, fun c_34 => ?_⟩
  · have f_35 : R 0 0 0 := ⟨by decide, by decide⟩
    have f_36 : R 0 0 r3 := rf_eq f_35 c_34
    refine s_X11_less 1 (-1000) ok_31.1 (fun r6 h5 ko_37 => ?_)
    have ok_38 := Ok_tr ok_31 ko_37 (by decide)
    have f_39 : R (-2147483648) 2147483647 r6 := R_full _
    exact hp _ _ ok_38 
  · have f_40 : R 0 0 0 := ⟨by decide, by decide⟩
    have f_41 := (im_32 c_34).1
    have f_42 := (im_32 c_34).2
    have f_43 : R 1 1 r3 := rf_ne_lo f_33 c_34 (by decide) 1 rfl
    have f_45 : R 9 9 9 := ⟨by decide, by decide⟩
    have f_44 : R 9 16 (9 + l1) := R_add f_45 f_41 9 16 (by decide)
    refine ⟨vin f_44 (by decide), ?_⟩
    refine ⟨fun c_46 => ?_, fun c_46 => ?_⟩
    · have f_48 : R (-2) 5 (mI h 45 (9 + l1).toNatClampNeg) := GI_rd ok.1 45 _ (rgp_45_2 (ix_ge f_44 (by decide)) (ix_le f_44 (by decide)))
      have f_47 : R (-2) 5 (mI h1 45 (9 + l1).toNatClampNeg) := Ok_rd ko_30 (by decide) f_48
      have f_49 : R (-2) (-2) (-2) := ⟨by decide, by decide⟩
      have f_50 : R (-2) (-2) (mI h1 45 (9 + l1).toNatClampNeg) := rf_eq f_49 c_46
      refine s_X11_less 1 (-1000) ok_31.1 (fun r10 h9 ko_51 => ?_)
      have ok_52 := Ok_tr ok_31 ko_51 (by decide)
      have f_53 : R (-2147483648) 2147483647 r10 := R_full _
      exact hp _ _ ok_52 
    · have f_55 : R (-2) 5 (mI h 45 (9 + l1).toNatClampNeg) := GI_rd ok.1 45 _ (rgp_45_2 (ix_ge f_44 (by decide)) (ix_le f_44 (by decide)))
      have f_54 : R (-2) 5 (mI h1 45 (9 + l1).toNatClampNeg) := Ok_rd ko_30 (by decide) f_55
      have f_56 : R (-2) (-2) (-2) := ⟨by decide, by decide⟩
      have f_57 : R (-1) 5 (mI h1 45 (9 + l1).toNatClampNeg) := rf_ne_lo f_54 c_46 (by decide) (-1) rfl
      refine s_X11_sameOf l1 ok_31.1 (R_w f_41 (by decide)) (fun r12 => ?_)
      have f_58 : R (-2147483648) 2147483647 r12 := R_full _
      exact hp _ _ ok_31 
/-- the number that the bits of x make -/
def uN (x : Int32) : Nat := x.toBitVec.toNat
theorem uN_lt (x : Int32) : uN x < 4294967296 := x.toBitVec.isLt
theorem uN_or (x y : Int32) : uN x ≤ uN (x ||| y) := by
  show x.toBitVec.toNat ≤ (x.toBitVec ||| y.toBitVec).toNat
  rw [BitVec.toNat_or]
  exact Nat.left_le_or
theorem uN_inj {x y : Int32} (h : uN x = uN y) : x = y := Int32.toBitVec_inj.mp (BitVec.eq_of_toNat_eq h)
set_option maxRecDepth 100000 in
theorem s_X11_isCycle_159 {g : gT} {h : mh_T} {P : Int32 → mh_T → Prop} (hG : GI h) (l1 l2 l3 l5 : Int32) (nx : ∀ l4 : Int32, uN l5 ≤ uN l4 → ME g uX11_isCycle 145 [.ref 11, .int l1, .int l2, .int l3, .int l4, .int l5, .retAddr 0, .retAddr 0] [] h (qI P)) : ∀ (n : Nat) (l4 l6 : Int32), uN l5 ≤ uN l4 → R 0 8 l6 → gap 8 l6 < n → ME g uX11_isCycle 159 [.ref 11, .int l1, .int l2, .int l3, .int l4, .int l5, .int l6, .retAddr 0] [] h (qI P) := by
  intro n
  induction n with
  | zero => intro l4 l6 _ _ hn; exact absurd hn (Nat.not_lt_zero _)
  | succ n ih =>
    intro l4 l6 h45 f6 hn
    have c1 : R 1 1 1 := ⟨by decide, by decide⟩
    have c9 : R 9 9 9 := ⟨by decide, by decide⟩
    have fm : R 0 8 (mI h 45 (Int32.toNatClampNeg 0)) := GI_rd hG 45 _ (by decide)
    refine r_X11_isCycle_159 l1 l2 l3 l4 l5 l6 ⟨fun _ => nx l4 h45, fun c => ?_⟩
    have g6 : R 0 7 l6 := rf_lt_l f6 fm (nle c) 7 (by decide)
    have gi := gap_inc (N := 8) g6 (by decide)
    have go : ∀ x y : Int32, x = l4 ||| y → ME g uX11_isCycle 159 [.ref 11, .int l1, .int l2, .int l3, .int x, .int l5, .int (l6 + 1), .retAddr 0] [] h (qI P) := fun x y e => ih x (l6 + 1) (by rw [e]; exact Nat.le_trans h45 (uN_or l4 y)) (R_add g6 c1 0 8 (by decide)) (by omega)
    refine s_X11_has _ _ hG (fun r3 _ => ⟨fun _ => ⟨fun _ x e => go x _ e, fun _ x e => go x _ e⟩, fun _ => ⟨vin (R_add c1 g6 1 8 (by decide)) (by decide), vin (R_add c9 g6 9 16 (by decide)) (by decide), fun x10 _ => ⟨fun _ x e => go x _ e, fun _ x e => go x _ e⟩⟩⟩)
set_option maxRecDepth 100000 in
theorem s_X11_isCycle_145 {g : gT} {h : mh_T} {P : Int32 → mh_T → Prop} (hG : GI h) (hp : ∀ r : Int32, R 0 1 r → P r h) (l1 l2 l3 : Int32) : ∀ (n : Nat) (l4 l5 : Int32), uN l5 ≤ uN l4 → 4294967296 - uN l5 < n → ME g uX11_isCycle 145 [.ref 11, .int l1, .int l2, .int l3, .int l4, .int l5, .retAddr 0, .retAddr 0] [] h (qI P) := by
  intro n
  induction n with
  | zero => intro l4 l5 _ hn; exact absurd hn (Nat.not_lt_zero _)
  | succ n ih =>
    intro l4 l5 h45 hn
    refine r_X11_isCycle_145 l1 l2 l3 l4 l5 ⟨fun _ => ⟨fun _ => hp 0 ⟨by decide, by decide⟩, fun _ => hp 1 ⟨by decide, by decide⟩⟩, fun c => ?_⟩
    have h1 := uN_lt l4
    have h2 : uN l5 ≠ uN l4 := fun z => c (uN_inj z.symm)
    exact s_X11_isCycle_159 hG l1 l2 l3 l4 (fun l4' q => ih l4' l4 q (by omega)) 9 l4 0 (Nat.le_refl _) ⟨by decide, by decide⟩ (by decide)
set_option maxRecDepth 100000 in
theorem s_X11_isCycle_38 {g : gT} {h : mh_T} {P : Int32 → mh_T → Prop} (hG : GI h) (hp : ∀ r : Int32, R 0 1 r → P r h) (l1 : Int32) : ∀ (n : Nat) (l2 l3 l4 l5 : Int32), R 0 8 l5 → gap 8 l5 < n → ME g uX11_isCycle 38 [.ref 11, .int l1, .int l2, .int l3, .int l4, .int l5, .retAddr 0, .retAddr 0] [] h (qI P) := by
  intro n
  induction n with
  | zero => intro l2 l3 l4 l5 _ hn; exact absurd hn (Nat.not_lt_zero _)
  | succ n ih =>
    intro l2 l3 l4 l5 f5 hn
    have c1 : R 1 1 1 := ⟨by decide, by decide⟩
    have c9 : R 9 9 9 := ⟨by decide, by decide⟩
    have fm : R 0 8 (mI h 45 (Int32.toNatClampNeg 0)) := GI_rd hG 45 _ (by decide)
    have no : P 0 h := hp 0 ⟨by decide, by decide⟩
    refine r_X11_isCycle_38 l1 l2 l3 l4 l5 ⟨fun _ => ⟨fun _ => ?_, fun _ => no⟩, fun c => ?_⟩
    · refine s_X11_isCycle_145 hG hp l1 l2 l3 4294967297 l4 0 ?_ ?_
      · exact Nat.zero_le _
      · exact Nat.lt_succ_of_le (Nat.sub_le _ _)
    · have g5 : R 0 7 l5 := rf_lt_l f5 fm (nle c) 7 (by decide)
      have gi := gap_inc (N := 8) g5 (by decide)
      have go : ∀ a b d : Int32, ME g uX11_isCycle 38 [.ref 11, .int l1, .int a, .int b, .int d, .int (l5 + 1), .retAddr 0, .retAddr 0] [] h (qI P) := fun a b d => ih a b d (l5 + 1) (R_add g5 c1 0 8 (by decide)) (by omega)
      have v9 : vp_in (9 + l5) 346 := vin (R_add c9 g5 9 16 (by decide)) (by decide)
      exact s_X11_has _ _ hG (fun r4 _ => ⟨fun _ => ⟨v9, fun _ => ⟨vin (R_add c1 g5 1 8 (by decide)) (by decide), v9, fun x10 _ => ⟨fun _ x12 _ x13 _ => go _ _ _, fun _ => no⟩⟩, fun _ => no⟩, fun _ => go _ _ _⟩)
theorem s_X11_isCycle {g : gT} {h : mh_T} {P : Int32 → mh_T → Prop} (l1 : Int32) (hG : GI h) (hp : ∀ r : Int32, R 0 1 r → P r h) : MCi g yX11_isCycle uX11_isCycle [.ref 11, .int l1] h P := by
  have no : P 0 h := hp 0 ⟨by decide, by decide⟩
  refine e_X11_isCycle l1 (s_X11_within _ _ _ hG (fun r2 _ _ => ⟨fun _ => no, fun _ => ?_⟩))
  exact s_X11_bits _ hG (fun r5 => ⟨fun _ => s_X11_isCycle_38 hG hp l1 9 0 0 0 0 ⟨by decide, by decide⟩ (by decide), fun _ => no⟩)
set_option maxRecDepth 100000 in
set_option maxHeartbeats 4000000 in
theorem s_X11_cycleOf_L {g : gT} {h0 : mh_T} {P : Int32 → mh_T → Prop} (hG0 : GI h0) (hp : ∀ (r : Int32) h', Ok [] h0 h' → P r h') : ∀ n : Nat, (∀ (l1 : Int32) (l2 : Int32) (l3 : Int32) (h : mh_T), Ok [] h0 h → R (-2147483648) 2147483647 l1 → R (-2147483648) 2147483647 l2 → R 0 256 l3 → 1 * gap 256 l3 + 0 < n → ME g uX11_cycleOf 4 [.ref 11, .int l1, .int l2, .int l3] [] h (qI P)) := by
  intro n
  induction n with
  | zero =>
    exact (fun _ _ _ _ _ _ _ _ hm => absurd hm (Nat.not_lt_zero _))
  | succ n ih =>
    intro l1 l2 l3 h  ok fl1 fl2 fl3     hm
    refine r_X11_cycleOf_4 l1 l2 l3  ?_
    refine ⟨fun c_1374 => ?_, fun c_1374 => ?_⟩
    · have f_1376 : R 0 8 (mI h 45 (Int32.toNatClampNeg 0)) := GI_rd ok.1 45 _ (by decide)
      have f_1375 : R 1 256 (1 <<< ((mI h 45 (Int32.toNatClampNeg 0)) &&& 31)) := R_shl f_1376 1 256 0 8 (by decide)
      have f_1377 : R 1 256 l3 := rf_le_r f_1375 fl3 c_1374 1 (by decide)
      have f_1379 : R 1000 1000 1000 := ⟨by decide, by decide⟩
      have f_1378 : R (-2147483648) 2147483647 (l2 - 1000) := R_full _
      exact hp _ _ ok 
    · have f_1381 : R 0 8 (mI h 45 (Int32.toNatClampNeg 0)) := GI_rd ok.1 45 _ (by decide)
      have f_1380 : R 1 256 (1 <<< ((mI h 45 (Int32.toNatClampNeg 0)) &&& 31)) := R_shl f_1381 1 256 0 8 (by decide)
      have f_1382 : R 0 255 l3 := rf_lt_l fl3 f_1380 (nle c_1374) 255 (by decide)
      refine s_X11_isCycle l3 ok.1 (fun r3 f_1383 => ?_)
      refine ⟨fun c_1384 => ?_, fun c_1384 => ?_⟩
      · have f_1385 : R 0 0 0 := ⟨by decide, by decide⟩
        have f_1386 : R 1 1 r3 := rf_ne_lo f_1383 c_1384 (by decide) 1 rfl
        refine ⟨fun c_1387 => ?_, fun c_1387 => ?_⟩
        · have f_1389 : R 1 1 1 := ⟨by decide, by decide⟩
          have f_1388 : R (-2147483648) 2147483647 (l2 + 1) := R_full _
          have f_1391 : R 1 1 1 := ⟨by decide, by decide⟩
          have f_1390 : R 1 256 (l3 + 1) := R_add f_1382 f_1391 1 256 (by decide)
          have g_1392 := gap_inc (N := 256) f_1382 (by decide)
          exact ih l1 (l2 + 1) (l3 + 1) h  ok (R_w fl1 (by decide)) (R_w f_1388 (by decide)) (R_w f_1390 (by decide)) (by omega)
        · exact hp _ _ ok 
      · have f_1393 : R 0 0 0 := ⟨by decide, by decide⟩
        have f_1394 : R 0 0 r3 := rf_eq f_1393 c_1384
        have f_1396 : R 1 1 1 := ⟨by decide, by decide⟩
        have f_1395 : R 1 256 (l3 + 1) := R_add f_1382 f_1396 1 256 (by decide)
        have g_1397 := gap_inc (N := 256) f_1382 (by decide)
        exact ih l1 l2 (l3 + 1) h  ok (R_w fl1 (by decide)) (R_w fl2 (by decide)) (R_w f_1395 (by decide)) (by omega)
set_option maxRecDepth 100000 in
set_option maxHeartbeats 4000000 in
theorem s_X11_cycleOf {g : gT} {h : mh_T} {P : Int32 → mh_T → Prop} (l1 : Int32) (hG : GI h)  (hp : ∀ (r : Int32) h', Ok [] h h' → P r h') : MCi g yX11_cycleOf uX11_cycleOf [.ref 11, .int l1] h P := by
  have ok : Ok [] h h := Ok_rf hG
  have L0 := s_X11_cycleOf_L (g := g) hG hp 257
  refine e_X11_cycleOf l1  ?_
  have f_1398 : R 0 0 0 := ⟨by decide, by decide⟩
  have f_1399 : R 0 0 0 := ⟨by decide, by decide⟩
  have f_1400 : R 0 0 0 := ⟨by decide, by decide⟩
  have g_1401 := gap_le (N := 256) f_1400 (m := 256) (by decide)
  exact L0 l1 0 0 h  ok (R_w (R_full l1) (by decide)) (R_w f_1398 (by decide)) (R_w f_1399 (by decide)) (by omega)
set_option maxRecDepth 100000 in
set_option maxHeartbeats 4000000 in
theorem s_X11_cycles {g : gT} {h : mh_T} {P : Int32 → mh_T → Prop}  (hG : GI h)  (hp : ∀ (r : Int32) h', Ok [300, 11] h h' → ¬ mI h' 11 11 = 4 → P r h') : MCi g yX11_cycles uX11_cycles [.ref 11] h P := by
  have ok : Ok [300, 11] h h := Ok_rf hG
  refine e_X11_cycles   ?_
  refine s_X11_good ok.1 (fun h1 ko_18 t4 => ?_)
  have ok_19 := Ok_tr ok ko_18 (by decide)
  have hp : ∀ (r : Int32) h', Ok [300, 11] h1 h' → P r h' := fun r h' k => hp r h' (Ok_tr ok_19 k (by decide)) (k.2.2.2.2.2.2.1 t4)
  have ok_19 : Ok [300, 11] h1 h1 := Ok_rf ok_19.1
  refine ⟨fun c_20 => ?_, fun c_20 => ?_⟩
  · have f_21 : R 0 1 (mI h1 11 14) := GI_rd ok_19.1 11 _ (by decide)
    have f_22 : R 0 0 0 := ⟨by decide, by decide⟩
    have f_23 : R 0 0 (mI h1 11 14) := rf_eq f_22 c_20
    refine s_X11_no 1 ok_19.1 (fun r4 h3 ko_24 f_26 => ?_)
    have ok_25 := Ok_tr ok_19 ko_24 (by decide)
    exact hp _ _ ok_25 
  · have f_27 : R 0 1 (mI h1 11 14) := GI_rd ok_19.1 11 _ (by decide)
    have f_28 : R 0 0 0 := ⟨by decide, by decide⟩
    have f_29 : R 1 1 (mI h1 11 14) := rf_ne_lo f_27 c_20 (by decide) 1 rfl
    refine s_X11_cycleOf (-1) ok_19.1 (fun r6 h5 ko_30 => ?_)
    have ok_31 := Ok_tr ok_19 ko_30 (by decide)
    have f_33 : R (-2147483648) 2147483647 r6 := R_full _
    have f_34 : R 1000 1000 1000 := ⟨by decide, by decide⟩
    have f_32 : R (-2147483648) 2147483647 (r6 + 1000) := R_full _
    exact hp _ _ ok_31 
set_option maxRecDepth 100000 in
set_option maxHeartbeats 4000000 in
theorem s_X11_cycle {g : gT} {h : mh_T} {P : Int32 → mh_T → Prop} (l1 : Int32) (hG : GI h)  (hp : ∀ (r : Int32) h', Ok [300, 11] h h' → R (-1) 2147483647 r → ¬ mI h' 11 11 = 4 → P r h') : MCi g yX11_cycle uX11_cycle [.ref 11, .int l1] h P := by
  have ok : Ok [300, 11] h h := Ok_rf hG
  refine e_X11_cycle l1  ?_
  refine s_X11_good ok.1 (fun h1 ko_33 t4 => ?_)
  have ok_34 := Ok_tr ok ko_33 (by decide)
  have hp : ∀ (r : Int32) h', Ok [300, 11] h1 h' → R (-1) 2147483647 r → P r h' := fun r h' k x0 => hp r h' (Ok_tr ok_34 k (by decide)) x0 (k.2.2.2.2.2.2.1 t4)
  have ok_34 : Ok [300, 11] h1 h1 := Ok_rf ok_34.1
  refine ⟨fun c_35 => ?_, fun c_35 => ?_⟩
  · have f_36 : R 0 1 (mI h1 11 14) := GI_rd ok_34.1 11 _ (by decide)
    have f_37 : R 0 0 0 := ⟨by decide, by decide⟩
    have f_38 : R 0 0 (mI h1 11 14) := rf_eq f_37 c_35
    refine s_X11_no 1 ok_34.1 (fun r4 h3 ko_39 f_41 => ?_)
    have ok_40 := Ok_tr ok_34 ko_39 (by decide)
    exact hp _ _ ok_40 (R_w f_41 (by decide))
  · have f_42 : R 0 1 (mI h1 11 14) := GI_rd ok_34.1 11 _ (by decide)
    have f_43 : R 0 0 0 := ⟨by decide, by decide⟩
    have f_44 : R 1 1 (mI h1 11 14) := rf_ne_lo f_42 c_35 (by decide) 1 rfl
    refine ⟨fun c_45 => ?_, fun c_45 => ?_⟩
    · have f_46 : R 0 0 0 := ⟨by decide, by decide⟩
      have f_47 : R 0 2147483647 l1 := rf_le_r f_46 (R_full l1) c_45 0 (by decide)
      refine s_X11_cycleOf l1 ok_34.1 (fun r7 h6 ko_48 => ?_)
      have ok_49 := Ok_tr ok_34 ko_48 (by decide)
      refine ⟨fun c_50 => ?_, fun c_50 => ?_⟩
      · have f_51 : R (-2147483648) 2147483647 r7 := R_full _
        have f_52 : R 0 0 0 := ⟨by decide, by decide⟩
        have f_53 : R 0 2147483647 r7 := rf_le_r f_52 f_51 c_50 0 (by decide)
        exact hp _ _ ok_49 (R_w f_53 (by decide))
      · have f_54 : R (-2147483648) 2147483647 r7 := R_full _
        have f_55 : R 0 0 0 := ⟨by decide, by decide⟩
        have f_56 : R (-2147483648) (-1) r7 := rf_lt_l f_54 f_55 (nle c_50) (-1) (by decide)
        refine s_X11_no 1 ok_49.1 (fun r10 h9 ko_57 f_59 => ?_)
        have ok_58 := Ok_tr ok_49 ko_57 (by decide)
        exact hp _ _ ok_58 (R_w f_59 (by decide))
    · have f_60 : R 0 0 0 := ⟨by decide, by decide⟩
      have f_61 : R (-2147483648) (-1) l1 := rf_lt_l (R_full l1) f_60 (nle c_45) (-1) (by decide)
      refine s_X11_no 1 ok_34.1 (fun r12 h11 ko_62 f_64 => ?_)
      have ok_63 := Ok_tr ok_34 ko_62 (by decide)
      exact hp _ _ ok_63 (R_w f_64 (by decide))
set_option maxRecDepth 100000 in
set_option maxHeartbeats 4000000 in
theorem s_X11_excessOf_L {g : gT} {h0 : mh_T} {P : Int32 → mh_T → Prop} (hG0 : GI h0) (hp : ∀ r : Int32, P r h0) : ∀ n : Nat, (∀ (l1 : Int32) (l2 : Int32) (l3 : Int32), R (-2147483648) 2147483647 l1 → R (-100000) 2147483647 l2 → R 0 256 l3 → 10 * gap 256 l3 + 9 < n → ME g uX11_excessOf 6 [.ref 11, .int l1, .int l2, .int l3, .retAddr 0, .retAddr 0] [] h0 (qI P)) ∧ (∀ (l1 : Int32) (l2 : Int32) (l3 : Int32) (l4 : Int32) (l5 : Int32), R (-2147483648) 2147483647 l1 → R (-100000) 2147483647 l2 → R 0 255 l3 → R (-2147483648) 2147483647 l4 → R 0 8 l5 → 1 * gap 8 l5 + 10 * gap 256 l3 + 0 < n → ME g uX11_excessOf 44 [.ref 11, .int l1, .int l2, .int l3, .int l4, .int l5] [] h0 (qI P)) := by
  intro n
  induction n with
  | zero =>
    exact ⟨(fun _ _ _ _ _ _ hm => absurd hm (Nat.not_lt_zero _)), (fun _ _ _ _ _ _ _ _ _ _ hm => absurd hm (Nat.not_lt_zero _))⟩
  | succ n ih =>
    refine ⟨?_, ?_⟩
    · intro l1 l2 l3  fl1 fl2 fl3     hm
      have ok : Ok [] h0 h0 := Ok_rf hG0
      refine r_X11_excessOf_6 l1 l2 l3  ?_
      refine ⟨fun c_2914 => ?_, fun c_2914 => ?_⟩
      · have f_2916 : R 0 8 (mI h0 45 (Int32.toNatClampNeg 0)) := GI_rd ok.1 45 _ (by decide)
        have f_2915 : R 1 256 (1 <<< ((mI h0 45 (Int32.toNatClampNeg 0)) &&& 31)) := R_shl f_2916 1 256 0 8 (by decide)
        have f_2917 : R 1 256 l3 := rf_le_r f_2915 fl3 c_2914 1 (by decide)
        refine s_X11_bits l1 ok.1 (fun r3 => ?_)
        have f_2920 : R 0 60 (mI h0 45 (Int32.toNatClampNeg 49)) := GI_rd ok.1 45 _ (by decide)
        have f_2922 : R (-2147483648) 2147483647 r3 := R_full _
        have f_2923 : R 2 2 2 := ⟨by decide, by decide⟩
        have f_2921 : R (-2147483648) 2147483647 (r3 - 2) := R_full _
        have f_2919 : R (-2147483648) 2147483647 ((mI h0 45 (Int32.toNatClampNeg 49)) * (r3 - 2)) := R_full _
        have f_2918 : R (-2147483648) 2147483647 (l2 - ((mI h0 45 (Int32.toNatClampNeg 49)) * (r3 - 2))) := R_full _
        exact hp _ 
      · have f_2925 : R 0 8 (mI h0 45 (Int32.toNatClampNeg 0)) := GI_rd ok.1 45 _ (by decide)
        have f_2924 : R 1 256 (1 <<< ((mI h0 45 (Int32.toNatClampNeg 0)) &&& 31)) := R_shl f_2925 1 256 0 8 (by decide)
        have f_2926 : R 0 255 l3 := rf_lt_l fl3 f_2924 (nle c_2914) 255 (by decide)
        refine ⟨fun c_2927 => ?_, fun c_2927 => ?_⟩
        · have f_2930 : R (-1) (-1) (-1) := ⟨by decide, by decide⟩
          have f_2929 : R (-2147483648) 2147483647 (l1 ^^^ (-1)) := R_full _
          have f_2928 : R 0 255 (l3 &&& (l1 ^^^ (-1))) := R_andl f_2926 (by decide)
          have f_2931 : R 0 0 0 := ⟨by decide, by decide⟩
          have f_2932 : R 1 255 (l3 &&& (l1 ^^^ (-1))) := rf_ne_lo f_2928 c_2927 (by decide) 1 rfl
          have f_2934 : R 1 1 1 := ⟨by decide, by decide⟩
          have f_2933 : R 1 256 (l3 + 1) := R_add f_2926 f_2934 1 256 (by decide)
          have g_2935 := gap_inc (N := 256) f_2926 (by decide)
          exact (ih.1) l1 l2 (l3 + 1)  (R_w fl1 (by decide)) (R_w fl2 (by decide)) (R_w f_2933 (by decide)) (by omega)
        · have f_2938 : R (-1) (-1) (-1) := ⟨by decide, by decide⟩
          have f_2937 : R (-2147483648) 2147483647 (l1 ^^^ (-1)) := R_full _
          have f_2936 : R 0 255 (l3 &&& (l1 ^^^ (-1))) := R_andl f_2926 (by decide)
          have f_2939 : R 0 0 0 := ⟨by decide, by decide⟩
          have f_2940 : R 0 0 (l3 &&& (l1 ^^^ (-1))) := rf_eq f_2939 c_2927
          refine s_X11_bits l3 ok.1 (fun r6 => ?_)
          refine ⟨fun c_2941 => ?_, fun c_2941 => ?_⟩
          · have f_2942 : R (-2147483648) 2147483647 (r6 - r6 / 2 * 2) := R_full _
            have f_2943 : R 0 0 0 := ⟨by decide, by decide⟩
            have f_2944 : R 0 0 0 := ⟨by decide, by decide⟩
            have f_2945 : R 0 0 0 := ⟨by decide, by decide⟩
            have f_2946 : R 0 0 0 := ⟨by decide, by decide⟩
            have g_2947 := gap_le (N := 8) f_2946 (m := 8) (by decide)
            exact (ih.2) l1 l2 l3 0 0  (R_w fl1 (by decide)) (R_w fl2 (by decide)) (R_w f_2926 (by decide)) (R_w f_2944 (by decide)) (R_w f_2945 (by decide)) (by omega)
          · have f_2948 : R (-2147483648) 2147483647 (r6 - r6 / 2 * 2) := R_full _
            have f_2949 : R 0 0 0 := ⟨by decide, by decide⟩
            have f_2950 : R 0 0 (r6 - r6 / 2 * 2) := rf_eq f_2949 c_2941
            have f_2952 : R 1 1 1 := ⟨by decide, by decide⟩
            have f_2951 : R 1 256 (l3 + 1) := R_add f_2926 f_2952 1 256 (by decide)
            have g_2953 := gap_inc (N := 256) f_2926 (by decide)
            exact (ih.1) l1 l2 (l3 + 1)  (R_w fl1 (by decide)) (R_w fl2 (by decide)) (R_w f_2951 (by decide)) (by omega)
    · intro l1 l2 l3 l4 l5  fl1 fl2 fl3 fl4 fl5     hm
      have ok : Ok [] h0 h0 := Ok_rf hG0
      refine r_X11_excessOf_44 l1 l2 l3 l4 l5  ?_
      refine ⟨fun c_2954 => ?_, fun c_2954 => ?_⟩
      · have f_2955 : R 0 8 (mI h0 45 (Int32.toNatClampNeg 0)) := GI_rd ok.1 45 _ (by decide)
        refine ⟨fun c_2956 => ?_, fun c_2956 => ?_⟩
        · have f_2958 : R 1 1 1 := ⟨by decide, by decide⟩
          have f_2957 : R 1 256 (l3 + 1) := R_add fl3 f_2958 1 256 (by decide)
          have g_2959 := gap_inc (N := 256) fl3 (by decide)
          exact (ih.1) l1 l2 (l3 + 1)  (R_w fl1 (by decide)) (R_w fl2 (by decide)) (R_w f_2957 (by decide)) (by omega)
        · have f_2960 : R (-100000) 2147483646 l2 := rf_lt_l fl2 fl4 (nle c_2956) 2147483646 (by decide)
          have f_2961 : R (-99999) 2147483647 l4 := rf_lt_r fl2 fl4 (nle c_2956) (-99999) (by decide)
          have f_2963 : R 1 1 1 := ⟨by decide, by decide⟩
          have f_2962 : R 1 256 (l3 + 1) := R_add fl3 f_2963 1 256 (by decide)
          have g_2964 := gap_inc (N := 256) fl3 (by decide)
          exact (ih.1) l1 l4 (l3 + 1)  (R_w fl1 (by decide)) (R_w f_2961 (by decide)) (R_w f_2962 (by decide)) (by omega)
      · have f_2965 : R 0 8 (mI h0 45 (Int32.toNatClampNeg 0)) := GI_rd ok.1 45 _ (by decide)
        have f_2966 : R 0 7 l5 := rf_lt_l fl5 f_2965 (nle c_2954) 7 (by decide)
        have f_2967 : R 1 8 (mI h0 45 (Int32.toNatClampNeg 0)) := rf_lt_r fl5 f_2965 (nle c_2954) 1 (by decide)
        refine s_X11_has l1 l5 ok.1 (fun r4 f_2968 => ?_)
        refine ⟨fun c_2969 => ?_, fun c_2969 => ?_⟩
        · have f_2970 : R 0 0 0 := ⟨by decide, by decide⟩
          have f_2971 : R 0 0 r4 := rf_eq f_2970 c_2969
          intro x6 ex6
          have f_2973 : R 0 0 0 := ⟨by decide, by decide⟩
          have f_2972 : R (-2147483648) 2147483647 (l4 + 0) := R_add fl4 f_2973 (-2147483648) 2147483647 (by decide)
          have f_2974 : R (-2147483648) 2147483647 x6 := rf_eq f_2972 ex6
          have f_2976 : R 1 1 1 := ⟨by decide, by decide⟩
          have f_2975 : R 1 8 (l5 + 1) := R_add f_2966 f_2976 1 8 (by decide)
          have g_2977 := gap_inc (N := 8) f_2966 (by decide)
          exact (ih.2) l1 l2 l3 x6 (l5 + 1)  (R_w fl1 (by decide)) (R_w fl2 (by decide)) (R_w fl3 (by decide)) (R_w f_2974 (by decide)) (R_w f_2975 (by decide)) (by omega)
        · have f_2978 : R 0 0 0 := ⟨by decide, by decide⟩
          have f_2979 : R 1 1 r4 := rf_ne_lo f_2968 c_2969 (by decide) 1 rfl
          refine s_X11_has l3 l5 ok.1 (fun r8 f_2980 => ?_)
          refine ⟨fun c_2981 => ?_, fun c_2981 => ?_⟩
          · have f_2982 : R 0 0 0 := ⟨by decide, by decide⟩
            have f_2983 : R 0 0 r8 := rf_eq f_2982 c_2981
            refine s_X11_sameOf l5 ok.1 (R_w f_2966 (by decide)) (fun r11 => ?_)
            intro x12 ex12
            have f_2985 : R (-2147483648) 2147483647 r11 := R_full _
            have f_2984 : R (-2147483648) 2147483647 (l4 + r11) := R_full _
            have f_2986 : R (-2147483648) 2147483647 x12 := rf_eq f_2984 ex12
            have f_2988 : R 1 1 1 := ⟨by decide, by decide⟩
            have f_2987 : R 1 8 (l5 + 1) := R_add f_2966 f_2988 1 8 (by decide)
            have g_2989 := gap_inc (N := 8) f_2966 (by decide)
            exact (ih.2) l1 l2 l3 x12 (l5 + 1)  (R_w fl1 (by decide)) (R_w fl2 (by decide)) (R_w fl3 (by decide)) (R_w f_2986 (by decide)) (R_w f_2987 (by decide)) (by omega)
          · have f_2990 : R 0 0 0 := ⟨by decide, by decide⟩
            have f_2991 : R 1 1 r8 := rf_ne_lo f_2980 c_2981 (by decide) 1 rfl
            refine s_X11_sameOf l5 ok.1 (R_w f_2966 (by decide)) (fun r14 => ?_)
            intro x15 ex15
            have f_2994 : R (-2147483648) 2147483647 r14 := R_full _
            have f_2993 : R (-2147483648) 2147483647 (-r14) := R_full _
            have f_2992 : R (-2147483648) 2147483647 (l4 + (-r14)) := R_full _
            have f_2995 : R (-2147483648) 2147483647 x15 := rf_eq f_2992 ex15
            have f_2997 : R 1 1 1 := ⟨by decide, by decide⟩
            have f_2996 : R 1 8 (l5 + 1) := R_add f_2966 f_2997 1 8 (by decide)
            have g_2998 := gap_inc (N := 8) f_2966 (by decide)
            exact (ih.2) l1 l2 l3 x15 (l5 + 1)  (R_w fl1 (by decide)) (R_w fl2 (by decide)) (R_w fl3 (by decide)) (R_w f_2995 (by decide)) (R_w f_2996 (by decide)) (by omega)
set_option maxRecDepth 100000 in
set_option maxHeartbeats 4000000 in
theorem s_X11_excessOf {g : gT} {h : mh_T} {P : Int32 → mh_T → Prop} (l1 : Int32) (hG : GI h)  (hp : ∀ r : Int32, P r h) : MCi g yX11_excessOf uX11_excessOf [.ref 11, .int l1] h P := by
  have ok : Ok [] h h := Ok_rf hG
  have L0 := s_X11_excessOf_L (g := g) hG hp 2570
  refine e_X11_excessOf l1  ?_
  have f_2999 : R (-100000) (-100000) (-100000) := ⟨by decide, by decide⟩
  have f_3000 : R 0 0 0 := ⟨by decide, by decide⟩
  have f_3001 : R 0 0 0 := ⟨by decide, by decide⟩
  have g_3002 := gap_le (N := 256) f_3001 (m := 256) (by decide)
  exact (L0.1) l1 (-100000) 0  (R_w (R_full l1) (by decide)) (R_w f_2999 (by decide)) (R_w f_3000 (by decide)) (by omega)
set_option maxRecDepth 100000 in
set_option maxHeartbeats 4000000 in
theorem s_X11_excess {g : gT} {h : mh_T} {P : Int32 → mh_T → Prop} (l1 : Int32) (hG : GI h)  (hp : ∀ (r : Int32) h', Ok [300, 11] h h' → ¬ mI h' 11 11 = 4 → P r h') : MCi g yX11_excess uX11_excess [.ref 11, .int l1] h P := by
  have ok : Ok [300, 11] h h := Ok_rf hG
  refine e_X11_excess l1  ?_
  refine s_X11_good ok.1 (fun h1 ko_23 t4 => ?_)
  have ok_24 := Ok_tr ok ko_23 (by decide)
  have hp : ∀ (r : Int32) h', Ok [300, 11] h1 h' → P r h' := fun r h' k => hp r h' (Ok_tr ok_24 k (by decide)) (k.2.2.2.2.2.2.1 t4)
  have ok_24 : Ok [300, 11] h1 h1 := Ok_rf ok_24.1
  refine ⟨fun c_25 => ?_, fun c_25 => ?_⟩
  · have f_26 : R 0 1 (mI h1 11 14) := GI_rd ok_24.1 11 _ (by decide)
    have f_27 : R 0 0 0 := ⟨by decide, by decide⟩
    have f_28 : R 1 1 (mI h1 11 14) := rf_ne_lo f_26 c_25 (by decide) 1 rfl
    refine s_X11_isCycle l1 ok_24.1 (fun r4 f_29 => ?_)
    refine ⟨fun c_30 => ?_, fun c_30 => ?_⟩
    · have f_31 : R 0 0 0 := ⟨by decide, by decide⟩
      have f_32 : R 0 0 r4 := rf_eq f_31 c_30
      refine s_X11_less 5 (-1000) ok_24.1 (fun r7 h6 ko_33 => ?_)
      have ok_34 := Ok_tr ok_24 ko_33 (by decide)
      have f_35 : R (-2147483648) 2147483647 r7 := R_full _
      exact hp _ _ ok_34 
    · have f_36 : R 0 0 0 := ⟨by decide, by decide⟩
      have f_37 : R 1 1 r4 := rf_ne_lo f_29 c_30 (by decide) 1 rfl
      refine s_X11_excessOf l1 ok_24.1 (fun r9 => ?_)
      have f_38 : R (-2147483648) 2147483647 r9 := R_full _
      exact hp _ _ ok_24 
  · have f_39 : R 0 1 (mI h1 11 14) := GI_rd ok_24.1 11 _ (by decide)
    have f_40 : R 0 0 0 := ⟨by decide, by decide⟩
    have f_41 : R 0 0 (mI h1 11 14) := rf_eq f_40 c_25
    refine s_X11_less 1 (-1000) ok_24.1 (fun r11 h10 ko_42 => ?_)
    have ok_43 := Ok_tr ok_24 ko_42 (by decide)
    have f_44 : R (-2147483648) 2147483647 r11 := R_full _
    exact hp _ _ ok_43 
set_option maxRecDepth 100000 in
set_option maxHeartbeats 4000000 in
theorem s_X11_winsOf_L {g : gT} {h0 : mh_T} {P : Int32 → mh_T → Prop} (hG0 : GI h0) (hp : ∀ r : Int32, P r h0) : ∀ n : Nat, (∀ (l1 : Int32) (l2 : Int32), R (-2147483648) 2147483647 l1 → R 0 8 l2 → 6 * gap 8 l2 + 5 < n → ME g uX11_winsOf 4 [.ref 11, .int l1, .int l2, .retAddr 0] [] h0 (qI P)) ∧ (∀ (l1 : Int32) (l2 : Int32) (l3 : Int32), R (-2147483648) 2147483647 l1 → R 0 7 l2 → R 0 4 l3 → 1 * gap 4 l3 + 6 * gap 8 l2 + 0 < n → ME g uX11_winsOf 16 [.ref 11, .int l1, .int l2, .int l3] [] h0 (qI P)) := by
  intro n
  induction n with
  | zero =>
    exact ⟨(fun _ _ _ _ hm => absurd hm (Nat.not_lt_zero _)), (fun _ _ _ _ _ _ hm => absurd hm (Nat.not_lt_zero _))⟩
  | succ n ih =>
    refine ⟨?_, ?_⟩
    · intro l1 l2  fl1 fl2     hm
      have ok : Ok [] h0 h0 := Ok_rf hG0
      refine r_X11_winsOf_4 l1 l2  ?_
      refine ⟨fun c_491 => ?_, fun c_491 => ?_⟩
      · have f_492 : R 0 8 (mI h0 45 (Int32.toNatClampNeg 0)) := GI_rd ok.1 45 _ (by decide)
        exact hp _ 
      · have f_493 : R 0 8 (mI h0 45 (Int32.toNatClampNeg 0)) := GI_rd ok.1 45 _ (by decide)
        have f_494 : R 0 7 l2 := rf_lt_l fl2 f_493 (nle c_491) 7 (by decide)
        have f_495 : R 1 8 (mI h0 45 (Int32.toNatClampNeg 0)) := rf_lt_r fl2 f_493 (nle c_491) 1 (by decide)
        have f_496 : R 0 0 0 := ⟨by decide, by decide⟩
        have f_497 : R 0 0 0 := ⟨by decide, by decide⟩
        have g_498 := gap_le (N := 4) f_497 (m := 4) (by decide)
        exact (ih.2) l1 l2 0  (R_w fl1 (by decide)) (R_w f_494 (by decide)) (R_w f_496 (by decide)) (by omega)
    · intro l1 l2 l3  fl1 fl2 fl3     hm
      have ok : Ok [] h0 h0 := Ok_rf hG0
      refine r_X11_winsOf_16 l1 l2 l3  ?_
      refine s_X11_outcomes l2 ok.1 (R_w fl2 (by decide)) (fun r2 f_499 => ?_)
      refine ⟨fun c_500 => ?_, fun c_500 => ?_⟩
      · have f_501 : R 2 4 l3 := rf_le_r f_499 fl3 c_500 2 (by decide)
        have f_503 : R 1 1 1 := ⟨by decide, by decide⟩
        have f_502 : R 1 8 (l2 + 1) := R_add fl2 f_503 1 8 (by decide)
        have g_504 := gap_inc (N := 8) fl2 (by decide)
        exact (ih.1) l1 (l2 + 1)  (R_w fl1 (by decide)) (R_w f_502 (by decide)) (by omega)
      · have f_505 : R 0 3 l3 := rf_lt_l fl3 f_499 (nle c_500) 3 (by decide)
        have f_508 : R 4 4 4 := ⟨by decide, by decide⟩
        have f_507 : R 0 28 (4 * l2) := R_mul f_508 fl2 0 28 (by decide)
        have f_506 : R 0 31 ((4 * l2) + l3) := R_add f_507 f_505 0 31 (by decide)
        refine ⟨vin f_506 (by decide), ?_⟩
        have f_511 : R 17 17 17 := ⟨by decide, by decide⟩
        have f_510 : R 17 45 (17 + (4 * l2)) := R_add f_511 f_507 17 45 (by decide)
        have f_509 : R 17 48 ((17 + (4 * l2)) + l3) := R_add f_510 f_505 17 48 (by decide)
        refine ⟨vin f_509 (by decide), ?_⟩
        intro x6 ex6
        have f_514 : R (-2147483648) 2147483647 (mI h0 47 ((4 * l2) + l3).toNatClampNeg) := R_full _
        have f_515 : R (-2147483648) 2147483647 (mI h0 45 ((17 + (4 * l2)) + l3).toNatClampNeg) := R_full _
        have f_513 : R (-2147483648) 2147483647 ((mI h0 47 ((4 * l2) + l3).toNatClampNeg) * (mI h0 45 ((17 + (4 * l2)) + l3).toNatClampNeg)) := R_full _
        have f_512 : R (-2147483648) 2147483647 (l1 + ((mI h0 47 ((4 * l2) + l3).toNatClampNeg) * (mI h0 45 ((17 + (4 * l2)) + l3).toNatClampNeg))) := R_full _
        have f_516 : R (-2147483648) 2147483647 x6 := rf_eq f_512 ex6
        have f_518 : R 1 1 1 := ⟨by decide, by decide⟩
        have f_517 : R 1 4 (l3 + 1) := R_add f_505 f_518 1 4 (by decide)
        have g_519 := gap_inc (N := 4) f_505 (by decide)
        exact (ih.2) x6 l2 (l3 + 1)  (R_w f_516 (by decide)) (R_w fl2 (by decide)) (R_w f_517 (by decide)) (by omega)
set_option maxRecDepth 100000 in
set_option maxHeartbeats 4000000 in
theorem s_X11_winsOf {g : gT} {h : mh_T} {P : Int32 → mh_T → Prop}  (hG : GI h)  (hp : ∀ r : Int32, P r h) : MCi g yX11_winsOf uX11_winsOf [.ref 11] h P := by
  have ok : Ok [] h h := Ok_rf hG
  have L0 := s_X11_winsOf_L (g := g) hG hp 54
  refine e_X11_winsOf   ?_
  have f_520 : R 0 0 0 := ⟨by decide, by decide⟩
  have f_521 : R 0 0 0 := ⟨by decide, by decide⟩
  have f_522 : R 0 0 0 := ⟨by decide, by decide⟩
  have g_523 := gap_le (N := 8) f_522 (m := 8) (by decide)
  exact (L0.1) 0 0  (R_w f_520 (by decide)) (R_w f_521 (by decide)) (by omega)
set_option maxRecDepth 100000 in
set_option maxHeartbeats 4000000 in
theorem s_X11_paid_L {g : gT} {h0 : mh_T} {P : Int32 → mh_T → Prop} (hG0 : GI h0) (hp : ∀ r : Int32, P r h0) : ∀ n : Nat, (∀ (l1 : Int32) (l2 : Int32) (l3 : Int32), R (-2147483648) 2147483647 l1 → R (-2147483648) 2147483647 l2 → R 0 8 l3 → 1 * gap 8 l3 + 0 < n → ME g uX11_paid 4 [.ref 11, .int l1, .int l2, .int l3] [] h0 (qI P)) := by
  intro n
  induction n with
  | zero =>
    exact (fun _ _ _ _ _ _ hm => absurd hm (Nat.not_lt_zero _))
  | succ n ih =>
    intro l1 l2 l3  fl1 fl2 fl3     hm
    have ok : Ok [] h0 h0 := Ok_rf hG0
    refine r_X11_paid_4 l1 l2 l3  ?_
    refine ⟨fun c_147 => ?_, fun c_147 => ?_⟩
    · have f_148 : R 0 8 (mI h0 45 (Int32.toNatClampNeg 0)) := GI_rd ok.1 45 _ (by decide)
      exact hp _ 
    · have f_149 : R 0 8 (mI h0 45 (Int32.toNatClampNeg 0)) := GI_rd ok.1 45 _ (by decide)
      have f_150 : R 0 7 l3 := rf_lt_l fl3 f_149 (nle c_147) 7 (by decide)
      have f_151 : R 1 8 (mI h0 45 (Int32.toNatClampNeg 0)) := rf_lt_r fl3 f_149 (nle c_147) 1 (by decide)
      refine s_X11_fitted l3 l1 ok.1 (R_w f_150 (by decide)) (fun r3 f_152 => ?_)
      have f_155 : R 4 4 4 := ⟨by decide, by decide⟩
      have f_154 : R 0 28 (4 * l3) := R_mul f_155 f_150 0 28 (by decide)
      have f_153 : R 0 31 ((4 * l3) + r3) := R_add f_154 f_152 0 31 (by decide)
      refine ⟨vin f_153 (by decide), ?_⟩
      intro x5 ex5
      have f_157 : R (-2147483648) 2147483647 (mI h0 47 ((4 * l3) + r3).toNatClampNeg) := R_full _
      have f_156 : R (-2147483648) 2147483647 (l2 + (mI h0 47 ((4 * l3) + r3).toNatClampNeg)) := R_full _
      have f_158 : R (-2147483648) 2147483647 x5 := rf_eq f_156 ex5
      have f_160 : R 1 1 1 := ⟨by decide, by decide⟩
      have f_159 : R 1 8 (l3 + 1) := R_add f_150 f_160 1 8 (by decide)
      have g_161 := gap_inc (N := 8) f_150 (by decide)
      exact ih l1 x5 (l3 + 1)  (R_w fl1 (by decide)) (R_w f_158 (by decide)) (R_w f_159 (by decide)) (by omega)
set_option maxRecDepth 100000 in
set_option maxHeartbeats 4000000 in
theorem s_X11_paid {g : gT} {h : mh_T} {P : Int32 → mh_T → Prop} (l1 : Int32) (hG : GI h)  (hp : ∀ r : Int32, P r h) : MCi g yX11_paid uX11_paid [.ref 11, .int l1] h P := by
  have ok : Ok [] h h := Ok_rf hG
  have L0 := s_X11_paid_L (g := g) hG hp 9
  refine e_X11_paid l1  ?_
  have f_162 : R 0 0 0 := ⟨by decide, by decide⟩
  have f_163 : R 0 0 0 := ⟨by decide, by decide⟩
  have f_164 : R 0 0 0 := ⟨by decide, by decide⟩
  have g_165 := gap_le (N := 8) f_164 (m := 8) (by decide)
  exact L0 l1 0 0  (R_w (R_full l1) (by decide)) (R_w f_162 (by decide)) (R_w f_163 (by decide)) (by omega)
set_option maxRecDepth 100000 in
set_option maxHeartbeats 4000000 in
theorem s_X11_worstHidden_L {g : gT} {h0 : mh_T} {P : Int32 → mh_T → Prop} (hG0 : GI h0) (hp : ∀ r : Int32, R 0 63 r → P r h0) : ∀ n : Nat, (∀ (l1 : Int32) (l2 : Int32), R 0 63 l1 → R 1 64 l2 → 1 * gap 64 l2 + 0 < n → ME g uX11_worstHidden 4 [.ref 11, .int l1, .int l2] [] h0 (qI P)) := by
  intro n
  induction n with
  | zero =>
    exact (fun _ _ _ _ hm => absurd hm (Nat.not_lt_zero _))
  | succ n ih =>
    intro l1 l2  fl1 fl2     hm
    have ok : Ok [] h0 h0 := Ok_rf hG0
    refine r_X11_worstHidden_4 l1 l2  ?_
    refine s_X11_hiddenMany ok.1 (fun r2 f_479 => ?_)
    refine ⟨fun c_480 => ?_, fun c_480 => ?_⟩
    · exact hp _ (R_w fl1 (by decide))
    · have f_481 : R 1 63 l2 := rf_lt_l fl2 f_479 (nle c_480) 63 (by decide)
      have f_482 : R 2 64 r2 := rf_lt_r fl2 f_479 (nle c_480) 2 (by decide)
      refine s_X11_paid l2 ok.1 (fun r5 => ?_)
      refine s_X11_paid l1 ok.1 (fun r7 => ?_)
      refine ⟨fun c_483 => ?_, fun c_483 => ?_⟩
      · have f_484 : R (-2147483648) 2147483647 r5 := R_full _
        have f_485 : R (-2147483648) 2147483647 r7 := R_full _
        have f_487 : R 1 1 1 := ⟨by decide, by decide⟩
        have f_486 : R 2 64 (l2 + 1) := R_add f_481 f_487 2 64 (by decide)
        have g_488 := gap_inc (N := 64) f_481 (by decide)
        exact ih l1 (l2 + 1)  (R_w fl1 (by decide)) (R_w f_486 (by decide)) (by omega)
      · have f_489 : R (-2147483648) 2147483647 r5 := R_full _
        have f_490 : R (-2147483648) 2147483647 r7 := R_full _
        have f_491 : R (-2147483648) 2147483646 r5 := rf_lt_l f_489 f_490 (nle c_483) 2147483646 (by decide)
        have f_492 : R (-2147483647) 2147483647 r7 := rf_lt_r f_489 f_490 (nle c_483) (-2147483647) (by decide)
        have f_494 : R 1 1 1 := ⟨by decide, by decide⟩
        have f_493 : R 2 64 (l2 + 1) := R_add f_481 f_494 2 64 (by decide)
        have g_495 := gap_inc (N := 64) f_481 (by decide)
        exact ih l2 (l2 + 1)  (R_w f_481 (by decide)) (R_w f_493 (by decide)) (by omega)
set_option maxRecDepth 100000 in
set_option maxHeartbeats 4000000 in
theorem s_X11_worstHidden {g : gT} {h : mh_T} {P : Int32 → mh_T → Prop}  (hG : GI h)  (hp : ∀ r : Int32, R 0 63 r → P r h) : MCi g yX11_worstHidden uX11_worstHidden [.ref 11] h P := by
  have ok : Ok [] h h := Ok_rf hG
  have L0 := s_X11_worstHidden_L (g := g) hG hp 64
  refine e_X11_worstHidden   ?_
  have f_496 : R 0 0 0 := ⟨by decide, by decide⟩
  have f_497 : R 1 1 1 := ⟨by decide, by decide⟩
  have f_498 : R 1 1 1 := ⟨by decide, by decide⟩
  have g_499 := gap_le (N := 64) f_498 (m := 63) (by decide)
  exact L0 0 1  (R_w f_496 (by decide)) (R_w f_497 (by decide)) (by omega)
set_option maxRecDepth 100000 in
set_option maxHeartbeats 4000000 in
theorem s_X11_wins {g : gT} {h : mh_T} {P : Int32 → mh_T → Prop}  (hG : GI h)  (hp : ∀ (r : Int32) h', Ok [300, 11] h h' → ¬ mI h' 11 11 = 4 → P r h') : MCi g yX11_wins uX11_wins [.ref 11] h P := by
  have ok : Ok [300, 11] h h := Ok_rf hG
  refine e_X11_wins   ?_
  refine s_X11_good ok.1 (fun h1 ko_14 t4 => ?_)
  have ok_15 := Ok_tr ok ko_14 (by decide)
  have hp : ∀ (r : Int32) h', Ok [300, 11] h1 h' → P r h' := fun r h' k => hp r h' (Ok_tr ok_15 k (by decide)) (k.2.2.2.2.2.2.1 t4)
  have ok_15 : Ok [300, 11] h1 h1 := Ok_rf ok_15.1
  refine ⟨fun c_16 => ?_, fun c_16 => ?_⟩
  · have f_17 : R 0 1 (mI h1 11 14) := GI_rd ok_15.1 11 _ (by decide)
    have f_18 : R 0 0 0 := ⟨by decide, by decide⟩
    have f_19 : R 0 0 (mI h1 11 14) := rf_eq f_18 c_16
    refine s_X11_no 1 ok_15.1 (fun r4 h3 ko_20 f_22 => ?_)
    have ok_21 := Ok_tr ok_15 ko_20 (by decide)
    exact hp _ _ ok_21 
  · have f_23 : R 0 1 (mI h1 11 14) := GI_rd ok_15.1 11 _ (by decide)
    have f_24 : R 0 0 0 := ⟨by decide, by decide⟩
    have f_25 : R 1 1 (mI h1 11 14) := rf_ne_lo f_23 c_16 (by decide) 1 rfl
    refine s_X11_winsOf ok_15.1 (fun r6 => ?_)
    have f_26 : R (-2147483648) 2147483647 r6 := R_full _
    exact hp _ _ ok_15 
set_option maxRecDepth 100000 in
set_option maxHeartbeats 4000000 in
theorem s_X11_worst {g : gT} {h : mh_T} {P : Int32 → mh_T → Prop}  (hG : GI h)  (hp : ∀ (r : Int32) h', Ok [300, 11] h h' → ¬ mI h' 11 11 = 4 → P r h') : MCi g yX11_worst uX11_worst [.ref 11] h P := by
  have ok : Ok [300, 11] h h := Ok_rf hG
  refine e_X11_worst   ?_
  refine s_X11_good ok.1 (fun h1 ko_15 t4 => ?_)
  have ok_16 := Ok_tr ok ko_15 (by decide)
  have hp : ∀ (r : Int32) h', Ok [300, 11] h1 h' → P r h' := fun r h' k => hp r h' (Ok_tr ok_16 k (by decide)) (k.2.2.2.2.2.2.1 t4)
  have ok_16 : Ok [300, 11] h1 h1 := Ok_rf ok_16.1
  refine ⟨fun c_17 => ?_, fun c_17 => ?_⟩
  · have f_18 : R 0 1 (mI h1 11 14) := GI_rd ok_16.1 11 _ (by decide)
    have f_19 : R 0 0 0 := ⟨by decide, by decide⟩
    have f_20 : R 0 0 (mI h1 11 14) := rf_eq f_19 c_17
    refine s_X11_no 1 ok_16.1 (fun r4 h3 ko_21 f_23 => ?_)
    have ok_22 := Ok_tr ok_16 ko_21 (by decide)
    exact hp _ _ ok_22 
  · have f_24 : R 0 1 (mI h1 11 14) := GI_rd ok_16.1 11 _ (by decide)
    have f_25 : R 0 0 0 := ⟨by decide, by decide⟩
    have f_26 : R 1 1 (mI h1 11 14) := rf_ne_lo f_24 c_17 (by decide) 1 rfl
    refine s_X11_worstHidden ok_16.1 (fun r6 f_27 => ?_)
    refine s_X11_paid r6 ok_16.1 (fun r8 => ?_)
    have f_28 : R (-2147483648) 2147483647 r8 := R_full _
    exact hp _ _ ok_16 
set_option maxRecDepth 100000 in
set_option maxHeartbeats 4000000 in
theorem s_X11_worstAt {g : gT} {h : mh_T} {P : Int32 → mh_T → Prop}  (hG : GI h)  (hp : ∀ (r : Int32) h', Ok [300, 11] h h' → R (-1) 63 r → ¬ mI h' 11 11 = 4 → P r h') : MCi g yX11_worstAt uX11_worstAt [.ref 11] h P := by
  have ok : Ok [300, 11] h h := Ok_rf hG
  refine e_X11_worstAt   ?_
  refine s_X11_good ok.1 (fun h1 ko_14 t4 => ?_)
  have ok_15 := Ok_tr ok ko_14 (by decide)
  have hp : ∀ (r : Int32) h', Ok [300, 11] h1 h' → R (-1) 63 r → P r h' := fun r h' k x0 => hp r h' (Ok_tr ok_15 k (by decide)) x0 (k.2.2.2.2.2.2.1 t4)
  have ok_15 : Ok [300, 11] h1 h1 := Ok_rf ok_15.1
  refine ⟨fun c_16 => ?_, fun c_16 => ?_⟩
  · have f_17 : R 0 1 (mI h1 11 14) := GI_rd ok_15.1 11 _ (by decide)
    have f_18 : R 0 0 0 := ⟨by decide, by decide⟩
    have f_19 : R 0 0 (mI h1 11 14) := rf_eq f_18 c_16
    refine s_X11_no 1 ok_15.1 (fun r4 h3 ko_20 f_22 => ?_)
    have ok_21 := Ok_tr ok_15 ko_20 (by decide)
    exact hp _ _ ok_21 (R_w f_22 (by decide))
  · have f_23 : R 0 1 (mI h1 11 14) := GI_rd ok_15.1 11 _ (by decide)
    have f_24 : R 0 0 0 := ⟨by decide, by decide⟩
    have f_25 : R 1 1 (mI h1 11 14) := rf_ne_lo f_23 c_16 (by decide) 1 rfl
    refine s_X11_worstHidden ok_15.1 (fun r6 f_26 => ?_)
    exact hp _ _ ok_15 (R_w f_26 (by decide))
set_option maxRecDepth 100000 in
set_option maxHeartbeats 4000000 in
theorem s_X11_bars {g : gT} {h : mh_T} {P : Int32 → mh_T → Prop}  (hG : GI h)  (hp : ∀ (r : Int32) h', Ok [300, 11] h h' → R (-1) 1 r → ¬ mI h' 11 11 = 4 → P r h') : MCi g yX11_bars uX11_bars [.ref 11] h P := by
  have ok : Ok [300, 11] h h := Ok_rf hG
  refine e_X11_bars   ?_
  refine s_X11_good ok.1 (fun h1 ko_29 t4 => ?_)
  have ok_30 := Ok_tr ok ko_29 (by decide)
  have hp : ∀ (r : Int32) h', Ok [300, 11] h1 h' → R (-1) 1 r → P r h' := fun r h' k x0 => hp r h' (Ok_tr ok_30 k (by decide)) x0 (k.2.2.2.2.2.2.1 t4)
  have ok_30 : Ok [300, 11] h1 h1 := Ok_rf ok_30.1
  refine ⟨fun c_31 => ?_, fun c_31 => ?_⟩
  · have f_32 : R 0 1 (mI h1 11 14) := GI_rd ok_30.1 11 _ (by decide)
    have f_33 : R 0 0 0 := ⟨by decide, by decide⟩
    have f_34 : R 0 0 (mI h1 11 14) := rf_eq f_33 c_31
    refine s_X11_no 1 ok_30.1 (fun r4 h3 ko_35 f_37 => ?_)
    have ok_36 := Ok_tr ok_30 ko_35 (by decide)
    exact hp _ _ ok_36 (R_w f_37 (by decide))
  · have f_38 : R 0 1 (mI h1 11 14) := GI_rd ok_30.1 11 _ (by decide)
    have f_39 : R 0 0 0 := ⟨by decide, by decide⟩
    have f_40 : R 1 1 (mI h1 11 14) := rf_ne_lo f_38 c_31 (by decide) 1 rfl
    refine s_X11_winsOf ok_30.1 (fun r6 => ?_)
    refine s_X11_worstHidden ok_30.1 (fun r8 f_41 => ?_)
    refine s_X11_paid r8 ok_30.1 (fun r10 => ?_)
    refine ⟨fun c_42 => ?_, fun c_42 => ?_⟩
    · have f_43 : R (-2147483648) 2147483647 r6 := R_full _
      have f_45 : R (-2147483648) 2147483647 r10 := R_full _
      have f_47 : R 0 60 (mI h 45 (Int32.toNatClampNeg 49)) := GI_rd ok.1 45 _ (by decide)
      have f_46 : R 0 60 (mI h1 45 (Int32.toNatClampNeg 49)) := Ok_rd ko_29 (by decide) f_47
      have f_44 : R (-2147483648) 2147483647 (r10 * (mI h1 45 (Int32.toNatClampNeg 49))) := R_full _
      have f_48 : R 0 0 0 := ⟨by decide, by decide⟩
      exact hp _ _ ok_30 (R_w f_48 (by decide))
    · have f_49 : R (-2147483648) 2147483647 r6 := R_full _
      have f_51 : R (-2147483648) 2147483647 r10 := R_full _
      have f_53 : R 0 60 (mI h 45 (Int32.toNatClampNeg 49)) := GI_rd ok.1 45 _ (by decide)
      have f_52 : R 0 60 (mI h1 45 (Int32.toNatClampNeg 49)) := Ok_rd ko_29 (by decide) f_53
      have f_50 : R (-2147483648) 2147483647 (r10 * (mI h1 45 (Int32.toNatClampNeg 49))) := R_full _
      have f_54 : R (-2147483648) 2147483646 r6 := rf_lt_l f_49 f_50 (nle c_42) 2147483646 (by decide)
      have f_55 : R (-2147483647) 2147483647 (r10 * (mI h1 45 (Int32.toNatClampNeg 49))) := rf_lt_r f_49 f_50 (nle c_42) (-2147483647) (by decide)
      have f_56 : R 1 1 1 := ⟨by decide, by decide⟩
      exact hp _ _ ok_30 (R_w f_56 (by decide))
set_option maxRecDepth 100000 in
set_option maxHeartbeats 4000000 in
theorem s_X11_fair {g : gT} {h : mh_T} {P : Int32 → mh_T → Prop} (l1 : Int32) (hG : GI h)  (hp : ∀ (r : Int32) h', Ok [300, 11] h h' → ¬ mI h' 11 11 = 4 → P r h') : MCi g yX11_fair uX11_fair [.ref 11, .int l1] h P := by
  have ok : Ok [300, 11] h h := Ok_rf hG
  refine e_X11_fair l1  ?_
  refine s_X11_good ok.1 (fun h1 ko_31 t4 => ?_)
  have ok_32 := Ok_tr ok ko_31 (by decide)
  have hp : ∀ (r : Int32) h', Ok [300, 11] h1 h' → P r h' := fun r h' k => hp r h' (Ok_tr ok_32 k (by decide)) (k.2.2.2.2.2.2.1 t4)
  have ok_32 : Ok [300, 11] h1 h1 := Ok_rf ok_32.1
  refine ⟨fun c_33 => ?_, fun c_33 => ?_⟩
  · have f_34 : R 0 1 (mI h1 11 14) := GI_rd ok_32.1 11 _ (by decide)
    have f_35 : R 0 0 0 := ⟨by decide, by decide⟩
    have f_36 : R 1 1 (mI h1 11 14) := rf_ne_lo f_34 c_33 (by decide) 1 rfl
    refine s_X11_worstHidden ok_32.1 (fun r4 f_37 => ?_)
    refine s_X11_paid r4 ok_32.1 (fun r6 => ?_)
    intro x7 ex7
    have f_39 : R (-2147483648) 2147483647 r6 := R_full _
    have f_41 : R 0 60 (mI h 45 (Int32.toNatClampNeg 49)) := GI_rd ok.1 45 _ (by decide)
    have f_40 : R 0 60 (mI h1 45 (Int32.toNatClampNeg 49)) := Ok_rd ko_31 (by decide) f_41
    have f_38 : R (-2147483648) 2147483647 (r6 * (mI h1 45 (Int32.toNatClampNeg 49))) := R_full _
    have f_42 : R (-2147483648) 2147483647 x7 := rf_eq f_38 ex7
    refine ⟨fun c_43 => ?_, fun c_43 => ?_⟩
    · have f_44 : R 0 0 0 := ⟨by decide, by decide⟩
      have f_45 : R 0 0 x7 := rf_eq f_44 c_43
      have f_46 : R 1 1 1 := ⟨by decide, by decide⟩
      exact hp _ _ ok_32 
    · have f_47 : R 0 0 0 := ⟨by decide, by decide⟩
      refine s_X11_winsOf ok_32.1 (fun r10 => ?_)
      refine ⟨fun c_48 => ?_, fun c_48 => ?_⟩
      · have f_49 : R (-2147483648) 2147483647 r10 := R_full _
        have f_50 : R (-2147483648) 2147483646 r10 := rf_lt_l f_49 f_42 c_48 2147483646 (by decide)
        have f_51 : R (-2147483647) 2147483647 x7 := rf_lt_r f_49 f_42 c_48 (-2147483647) (by decide)
        refine s_X11_winsOf ok_32.1 (fun r13 => ?_)
        refine s_X11_lowest (Int32.toInt64 r13) (Int32.toInt64 x7) l1 ok_32.1 (i2l_ne c_43) (fun r15 => ?_)
        have f_52 : R (-2147483648) 2147483647 r15 := R_full _
        exact hp _ _ ok_32 
      · have f_53 : R (-2147483648) 2147483647 r10 := R_full _
        have f_54 : R 1 1 1 := ⟨by decide, by decide⟩
        exact hp _ _ ok_32 
  · have f_55 : R 0 1 (mI h1 11 14) := GI_rd ok_32.1 11 _ (by decide)
    have f_56 : R 0 0 0 := ⟨by decide, by decide⟩
    have f_57 : R 0 0 (mI h1 11 14) := rf_eq f_56 c_33
    refine s_X11_no 1 ok_32.1 (fun r17 h16 ko_58 f_60 => ?_)
    have ok_59 := Ok_tr ok_32 ko_58 (by decide)
    exact hp _ _ ok_59 
set_option maxRecDepth 100000 in
set_option maxHeartbeats 4000000 in
theorem s_X11_linesBy_L {g : gT} {h0 : mh_T} {P : Int32 → mh_T → Prop} (hG0 : GI h0) (hp : ∀ r : Int32, R 0 255 r → P r h0) : ∀ n : Nat, (∀ (l1 : Int32) (l2 : Int32) (l3 : Int32), R (-2147483648) 2147483647 l1 → R 0 255 l2 → R 0 8 l3 → 5 * gap 8 l3 + 4 < n → ME g uX11_linesBy 4 [.ref 11, .int l1, .int l2, .int l3, .retAddr 0, .retAddr 0] [] h0 (qI P)) ∧ (∀ (l1 : Int32) (l2 : Int32) (l3 : Int32) (l4 : Int32) (l5 : Int32), R (-2147483648) 2147483647 l1 → R 0 255 l2 → R 0 7 l3 → R (-2147483648) 2147483647 l4 → R 0 3 l5 → 1 * gap 3 l5 + 5 * gap 8 l3 + 0 < n → ME g uX11_linesBy 21 [.ref 11, .int l1, .int l2, .int l3, .int l4, .int l5] [] h0 (qI P)) := by
  intro n
  induction n with
  | zero =>
    exact ⟨(fun _ _ _ _ _ _ hm => absurd hm (Nat.not_lt_zero _)), (fun _ _ _ _ _ _ _ _ _ _ hm => absurd hm (Nat.not_lt_zero _))⟩
  | succ n ih =>
    refine ⟨?_, ?_⟩
    · intro l1 l2 l3  fl1 fl2 fl3     hm
      have ok : Ok [] h0 h0 := Ok_rf hG0
      refine r_X11_linesBy_4 l1 l2 l3  ?_
      refine ⟨fun c_2320 => ?_, fun c_2320 => ?_⟩
      · have f_2321 : R 0 8 (mI h0 45 (Int32.toNatClampNeg 52)) := GI_rd ok.1 45 _ (by decide)
        exact hp _ (R_w fl2 (by decide))
      · have f_2322 : R 0 8 (mI h0 45 (Int32.toNatClampNeg 52)) := GI_rd ok.1 45 _ (by decide)
        have f_2323 : R 0 7 l3 := rf_lt_l fl3 f_2322 (nle c_2320) 7 (by decide)
        have f_2324 : R 1 8 (mI h0 45 (Int32.toNatClampNeg 52)) := rf_lt_r fl3 f_2322 (nle c_2320) 1 (by decide)
        have f_2325 : R 0 0 0 := ⟨by decide, by decide⟩
        have f_2326 : R 0 0 0 := ⟨by decide, by decide⟩
        have f_2327 : R 0 0 0 := ⟨by decide, by decide⟩
        have g_2328 := gap_le (N := 3) f_2327 (m := 3) (by decide)
        exact (ih.2) l1 l2 l3 0 0  (R_w fl1 (by decide)) (R_w fl2 (by decide)) (R_w f_2323 (by decide)) (R_w f_2325 (by decide)) (R_w f_2326 (by decide)) (by omega)
    · intro l1 l2 l3 l4 l5  fl1 fl2 fl3 fl4 fl5     hm
      have ok : Ok [] h0 h0 := Ok_rf hG0
      refine r_X11_linesBy_21 l1 l2 l3 l4 l5  ?_
      refine ⟨fun c_2329 => ?_, fun c_2329 => ?_⟩
      · have f_2330 : R 3 3 3 := ⟨by decide, by decide⟩
        have f_2331 : R 3 3 l5 := rf_le_r f_2330 fl5 c_2329 3 (by decide)
        have f_2333 : R 77 77 77 := ⟨by decide, by decide⟩
        have f_2332 : R 77 84 (77 + l3) := R_add f_2333 fl3 77 84 (by decide)
        refine ⟨vin f_2332 (by decide), ?_⟩
        refine ⟨fun c_2334 => ?_, fun c_2334 => ?_⟩
        · have f_2335 : R (-2147483648) 2147483647 (l4 - l4 / 2 * 2) := R_full _
          have f_2336 : R 0 1 (mI h0 45 (77 + l3).toNatClampNeg) := GI_rd ok.1 45 _ (rgp_45_8 (ix_ge f_2332 (by decide)) (ix_le f_2332 (by decide)))
          intro x4 ex4
          have f_2338 : R 0 0 0 := ⟨by decide, by decide⟩
          have f_2337 : R 0 255 (l2 ||| 0) := R_or fl2 f_2338 8 255 (by decide)
          have f_2339 : R 0 255 x4 := rf_eq f_2337 ex4
          have f_2341 : R 1 1 1 := ⟨by decide, by decide⟩
          have f_2340 : R 1 8 (l3 + 1) := R_add fl3 f_2341 1 8 (by decide)
          have g_2342 := gap_inc (N := 8) fl3 (by decide)
          exact (ih.1) l1 x4 (l3 + 1)  (R_w fl1 (by decide)) (R_w f_2339 (by decide)) (R_w f_2340 (by decide)) (by omega)
        · have f_2343 : R (-2147483648) 2147483647 (l4 - l4 / 2 * 2) := R_full _
          have f_2344 : R 0 1 (mI h0 45 (77 + l3).toNatClampNeg) := GI_rd ok.1 45 _ (rgp_45_8 (ix_ge f_2332 (by decide)) (ix_le f_2332 (by decide)))
          have f_2345 : R 0 1 (l4 - l4 / 2 * 2) := rf_eq f_2344 c_2334
          intro x5 ex5
          have f_2347 : R 1 128 (1 <<< (l3 &&& 31)) := R_shl fl3 1 128 0 7 (by decide)
          have f_2346 : R 0 255 (l2 ||| (1 <<< (l3 &&& 31))) := R_or fl2 f_2347 8 255 (by decide)
          have f_2348 : R 0 255 x5 := rf_eq f_2346 ex5
          have f_2350 : R 1 1 1 := ⟨by decide, by decide⟩
          have f_2349 : R 1 8 (l3 + 1) := R_add fl3 f_2350 1 8 (by decide)
          have g_2351 := gap_inc (N := 8) fl3 (by decide)
          exact (ih.1) l1 x5 (l3 + 1)  (R_w fl1 (by decide)) (R_w f_2348 (by decide)) (R_w f_2349 (by decide)) (by omega)
      · have f_2352 : R 3 3 3 := ⟨by decide, by decide⟩
        have f_2353 : R 0 2 l5 := rf_lt_l fl5 f_2352 (nle c_2329) 2 (by decide)
        have f_2356 : R 53 53 53 := ⟨by decide, by decide⟩
        have f_2358 : R 3 3 3 := ⟨by decide, by decide⟩
        have f_2357 : R 0 21 (3 * l3) := R_mul f_2358 fl3 0 21 (by decide)
        have f_2355 : R 53 74 (53 + (3 * l3)) := R_add f_2356 f_2357 53 74 (by decide)
        have f_2354 : R 53 76 ((53 + (3 * l3)) + l5) := R_add f_2355 f_2353 53 76 (by decide)
        refine ⟨vin f_2354 (by decide), ?_⟩
        intro x7 ex7
        have f_2361 : R 1 1 1 := ⟨by decide, by decide⟩
        have f_2360 : R 0 1 ((l1 >>> ((mI h0 45 ((53 + (3 * l3)) + l5).toNatClampNeg) &&& 31)) &&& 1) := R_and f_2361 (by decide)
        have f_2359 : R (-2147483648) 2147483647 (l4 + ((l1 >>> ((mI h0 45 ((53 + (3 * l3)) + l5).toNatClampNeg) &&& 31)) &&& 1)) := R_full _
        have f_2362 : R (-2147483648) 2147483647 x7 := rf_eq f_2359 ex7
        have f_2364 : R 1 1 1 := ⟨by decide, by decide⟩
        have f_2363 : R 1 3 (l5 + 1) := R_add f_2353 f_2364 1 3 (by decide)
        have g_2365 := gap_inc (N := 3) f_2353 (by decide)
        exact (ih.2) l1 l2 l3 x7 (l5 + 1)  (R_w fl1 (by decide)) (R_w fl2 (by decide)) (R_w fl3 (by decide)) (R_w f_2362 (by decide)) (R_w f_2363 (by decide)) (by omega)
set_option maxRecDepth 100000 in
set_option maxHeartbeats 4000000 in
theorem s_X11_linesBy {g : gT} {h : mh_T} {P : Int32 → mh_T → Prop} (l1 : Int32) (hG : GI h)  (hp : ∀ r : Int32, R 0 255 r → P r h) : MCi g yX11_linesBy uX11_linesBy [.ref 11, .int l1] h P := by
  have ok : Ok [] h h := Ok_rf hG
  have L0 := s_X11_linesBy_L (g := g) hG hp 45
  refine e_X11_linesBy l1  ?_
  have f_2366 : R 0 0 0 := ⟨by decide, by decide⟩
  have f_2367 : R 0 0 0 := ⟨by decide, by decide⟩
  have f_2368 : R 0 0 0 := ⟨by decide, by decide⟩
  have g_2369 := gap_le (N := 8) f_2368 (m := 8) (by decide)
  exact (L0.1) l1 0 0  (R_w (R_full l1) (by decide)) (R_w f_2366 (by decide)) (R_w f_2367 (by decide)) (by omega)
set_option maxRecDepth 100000 in
set_option maxHeartbeats 4000000 in
theorem s_X11_allLines {g : gT} {h : mh_T} {P : Int32 → mh_T → Prop}  (hG : GI h)  (hp : ∀ r : Int32, R 0 255 r → P r h) : MCi g yX11_allLines uX11_allLines [.ref 11] h P := by
  have ok : Ok [] h h := Ok_rf hG
  refine e_X11_allLines   ?_
  have f_7 : R 0 8 (mI h 45 (Int32.toNatClampNeg 52)) := GI_rd ok.1 45 _ (by decide)
  have f_6 : R 1 256 (1 <<< ((mI h 45 (Int32.toNatClampNeg 52)) &&& 31)) := R_shl f_7 1 256 0 8 (by decide)
  have f_8 : R 1 1 1 := ⟨by decide, by decide⟩
  have f_5 : R 0 255 ((1 <<< ((mI h 45 (Int32.toNatClampNeg 52)) &&& 31)) - 1) := R_sub f_6 f_8 0 255 (by decide)
  exact hp _ (R_w f_5 (by decide))
set_option maxRecDepth 100000 in
set_option maxHeartbeats 4000000 in
theorem s_X11_ways_L {g : gT} {h0 : mh_T} {P : Int32 → mh_T → Prop} (hG0 : GI h0) (hp : ∀ (r : Int32) h', Ok [300, 11] h0 h' → P r h') : ∀ n : Nat, (∀ (l1 : Int32) (l2 : Int32) (h : mh_T), Ok [300, 11] h0 h → R (-2147483648) 2147483647 l1 → R 0 512 l2 → 1 * gap 512 l2 + 0 < n → ME g uX11_ways 21 [.ref 11, .int l1, .int l2] [] h (qI P)) := by
  intro n
  induction n with
  | zero =>
    exact (fun _ _ _ _ _ _ hm => absurd hm (Nat.not_lt_zero _))
  | succ n ih =>
    intro l1 l2 h  ok fl1 fl2     hm
    refine r_X11_ways_21 l1 l2  ?_
    refine ⟨fun c_1884 => ?_, fun c_1884 => ?_⟩
    · have f_1886 : R 0 9 (mI h 45 (Int32.toNatClampNeg 51)) := GI_rd ok.1 45 _ (by decide)
      have f_1885 : R 1 512 (1 <<< ((mI h 45 (Int32.toNatClampNeg 51)) &&& 31)) := R_shl f_1886 1 512 0 9 (by decide)
      have f_1887 : R 1 512 l2 := rf_le_r f_1885 fl2 c_1884 1 (by decide)
      exact hp _ _ ok 
    · have f_1889 : R 0 9 (mI h 45 (Int32.toNatClampNeg 51)) := GI_rd ok.1 45 _ (by decide)
      have f_1888 : R 1 512 (1 <<< ((mI h 45 (Int32.toNatClampNeg 51)) &&& 31)) := R_shl f_1889 1 512 0 9 (by decide)
      have f_1890 : R 0 511 l2 := rf_lt_l fl2 f_1888 (nle c_1884) 511 (by decide)
      refine s_X11_linesBy l2 ok.1 (fun r3 f_1891 => ?_)
      refine s_X11_allLines ok.1 (fun r5 f_1892 => ?_)
      refine ⟨fun c_1893 => ?_, fun c_1893 => ?_⟩
      · intro x7 ex7
        have f_1895 : R 0 0 0 := ⟨by decide, by decide⟩
        have f_1894 : R (-2147483648) 2147483647 (l1 + 0) := R_add fl1 f_1895 (-2147483648) 2147483647 (by decide)
        have f_1896 : R (-2147483648) 2147483647 x7 := rf_eq f_1894 ex7
        have f_1898 : R 1 1 1 := ⟨by decide, by decide⟩
        have f_1897 : R 1 512 (l2 + 1) := R_add f_1890 f_1898 1 512 (by decide)
        have g_1899 := gap_inc (N := 512) f_1890 (by decide)
        exact ih x7 (l2 + 1) h  ok (R_w f_1896 (by decide)) (R_w f_1897 (by decide)) (by omega)
      · intro x8 ex8
        have f_1901 : R 1 1 1 := ⟨by decide, by decide⟩
        have f_1900 : R (-2147483648) 2147483647 (l1 + 1) := R_full _
        have f_1902 : R (-2147483648) 2147483647 x8 := rf_eq f_1900 ex8
        have f_1904 : R 1 1 1 := ⟨by decide, by decide⟩
        have f_1903 : R 1 512 (l2 + 1) := R_add f_1890 f_1904 1 512 (by decide)
        have g_1905 := gap_inc (N := 512) f_1890 (by decide)
        exact ih x8 (l2 + 1) h  ok (R_w f_1902 (by decide)) (R_w f_1903 (by decide)) (by omega)
set_option maxRecDepth 100000 in
set_option maxHeartbeats 4000000 in
theorem s_X11_ways {g : gT} {h : mh_T} {P : Int32 → mh_T → Prop}  (hG : GI h)  (hp : ∀ (r : Int32) h', Ok [300, 11] h h' → ¬ mI h' 11 11 = 4 → P r h') : MCi g yX11_ways uX11_ways [.ref 11] h P := by
  have ok : Ok [300, 11] h h := Ok_rf hG
  refine e_X11_ways   ?_
  refine s_X11_good ok.1 (fun h1 ko_1906 t4 => ?_)
  have ok_1907 := Ok_tr ok ko_1906 (by decide)
  have hp : ∀ (r : Int32) h', Ok [300, 11] h1 h' → P r h' := fun r h' k => hp r h' (Ok_tr ok_1907 k (by decide)) (k.2.2.2.2.2.2.1 t4)
  have L0 := s_X11_ways_L (g := g) ok_1907.1 hp 513
  have ok_1907 : Ok [300, 11] h1 h1 := Ok_rf ok_1907.1
  refine ⟨fun c_1908 => ?_, fun c_1908 => ?_⟩
  · have f_1909 : R 0 1 (mI h1 11 14) := GI_rd ok_1907.1 11 _ (by decide)
    have f_1910 : R 0 0 0 := ⟨by decide, by decide⟩
    have f_1911 : R 1 1 (mI h1 11 14) := rf_ne_lo f_1909 c_1908 (by decide) 1 rfl
    have f_1912 : R 0 0 0 := ⟨by decide, by decide⟩
    have f_1913 : R 0 0 0 := ⟨by decide, by decide⟩
    have f_1914 : R 0 0 0 := ⟨by decide, by decide⟩
    have g_1915 := gap_le (N := 512) f_1914 (m := 512) (by decide)
    exact L0 0 0 h1  ok_1907 (R_w f_1912 (by decide)) (R_w f_1913 (by decide)) (by omega)
  · have f_1916 : R 0 1 (mI h1 11 14) := GI_rd ok_1907.1 11 _ (by decide)
    have f_1917 : R 0 0 0 := ⟨by decide, by decide⟩
    have f_1918 : R 0 0 (mI h1 11 14) := rf_eq f_1917 c_1908
    refine s_X11_no 1 ok_1907.1 (fun r4 h3 ko_1919 f_1921 => ?_)
    have ok_1920 := Ok_tr ok_1907 ko_1919 (by decide)
    exact hp _ _ ok_1920 
set_option maxRecDepth 100000 in
set_option maxHeartbeats 4000000 in
theorem s_X11_forced_L {g : gT} {h0 : mh_T} {P : Int32 → mh_T → Prop} (hG0 : GI h0) (hp : ∀ (r : Int32) h', Ok [300, 11] h0 h' → R (-2) 1 r → P r h') : ∀ n : Nat, (∀ (l1 : Int32) (l2 : Int32) (l3 : Int32) (l4 : Int32) (h : mh_T), Ok [300, 11] h0 h → R 0 8 l1 → R (-2147483648) 2147483647 l2 → R (-2147483648) 2147483647 l3 → R 0 512 l4 → 1 * gap 512 l4 + 0 < n → ME g uX11_forced 41 [.ref 11, .int l1, .int l2, .int l3, .int l4] [] h (qI P)) := by
  intro n
  induction n with
  | zero =>
    exact (fun _ _ _ _ _ _ _ _ _ _ hm => absurd hm (Nat.not_lt_zero _))
  | succ n ih =>
    intro l1 l2 l3 l4 h  ok fl1 fl2 fl3 fl4     hm
    refine r_X11_forced_41 l1 l2 l3 l4  ?_
    refine ⟨fun c_4572 => ?_, fun c_4572 => ?_⟩
    · have f_4574 : R 0 9 (mI h 45 (Int32.toNatClampNeg 51)) := GI_rd ok.1 45 _ (by decide)
      have f_4573 : R 1 512 (1 <<< ((mI h 45 (Int32.toNatClampNeg 51)) &&& 31)) := R_shl f_4574 1 512 0 9 (by decide)
      have f_4575 : R 1 512 l4 := rf_le_r f_4573 fl4 c_4572 1 (by decide)
      refine ⟨fun c_4576 => ?_, fun c_4576 => ?_⟩
      · have f_4577 : R (-2147483648) 2147483647 (l2 + l3) := R_full _
        have f_4578 : R 0 0 0 := ⟨by decide, by decide⟩
        refine ⟨fun c_4579 => ?_, fun c_4579 => ?_⟩
        · have f_4580 : R 0 0 0 := ⟨by decide, by decide⟩
          refine ⟨fun c_4581 => ?_, fun c_4581 => ?_⟩
          · have f_4582 : R 0 0 0 := ⟨by decide, by decide⟩
            have f_4583 : R (-2) (-2) (-2) := ⟨by decide, by decide⟩
            exact hp _ _ ok (R_w f_4583 (by decide))
          · have f_4584 : R 0 0 0 := ⟨by decide, by decide⟩
            have f_4585 : R 0 0 l3 := rf_eq f_4584 c_4581
            have f_4586 : R 0 0 0 := ⟨by decide, by decide⟩
            exact hp _ _ ok (R_w f_4586 (by decide))
        · have f_4587 : R 0 0 0 := ⟨by decide, by decide⟩
          have f_4588 : R 0 0 l2 := rf_eq f_4587 c_4579
          have f_4589 : R 1 1 1 := ⟨by decide, by decide⟩
          exact hp _ _ ok (R_w f_4589 (by decide))
      · have f_4590 : R (-2147483648) 2147483647 (l2 + l3) := R_full _
        have f_4591 : R 0 0 0 := ⟨by decide, by decide⟩
        have f_4592 : R 0 0 (l2 + l3) := rf_eq f_4591 c_4576
        refine s_X11_no 6 ok.1 (fun r6 h5 ko_4593 f_4595 => ?_)
        have ok_4594 := Ok_tr ok ko_4593 (by decide)
        exact hp _ _ ok_4594 (R_w f_4595 (by decide))
    · have f_4597 : R 0 9 (mI h 45 (Int32.toNatClampNeg 51)) := GI_rd ok.1 45 _ (by decide)
      have f_4596 : R 1 512 (1 <<< ((mI h 45 (Int32.toNatClampNeg 51)) &&& 31)) := R_shl f_4597 1 512 0 9 (by decide)
      have f_4598 : R 0 511 l4 := rf_lt_l fl4 f_4596 (nle c_4572) 511 (by decide)
      refine s_X11_linesBy l4 ok.1 (fun r8 f_4599 => ?_)
      refine s_X11_allLines ok.1 (fun r10 f_4600 => ?_)
      refine ⟨fun c_4601 => ?_, fun c_4601 => ?_⟩
      · refine s_X11_has l4 l1 ok.1 (fun r13 f_4602 => ?_)
        refine ⟨fun c_4603 => ?_, fun c_4603 => ?_⟩
        · have f_4604 : R 0 0 0 := ⟨by decide, by decide⟩
          have f_4605 : R 0 0 r13 := rf_eq f_4604 c_4603
          have f_4607 : R 1 1 1 := ⟨by decide, by decide⟩
          have f_4606 : R (-2147483648) 2147483647 (l2 + 1) := R_full _
          have f_4609 : R 1 1 1 := ⟨by decide, by decide⟩
          have f_4608 : R 1 512 (l4 + 1) := R_add f_4598 f_4609 1 512 (by decide)
          have g_4610 := gap_inc (N := 512) f_4598 (by decide)
          exact ih l1 (l2 + 1) l3 (l4 + 1) h  ok (R_w fl1 (by decide)) (R_w f_4606 (by decide)) (R_w fl3 (by decide)) (R_w f_4608 (by decide)) (by omega)
        · have f_4611 : R 0 0 0 := ⟨by decide, by decide⟩
          have f_4612 : R 1 1 r13 := rf_ne_lo f_4602 c_4603 (by decide) 1 rfl
          have f_4614 : R 1 1 1 := ⟨by decide, by decide⟩
          have f_4613 : R (-2147483648) 2147483647 (l3 + 1) := R_full _
          have f_4616 : R 1 1 1 := ⟨by decide, by decide⟩
          have f_4615 : R 1 512 (l4 + 1) := R_add f_4598 f_4616 1 512 (by decide)
          have g_4617 := gap_inc (N := 512) f_4598 (by decide)
          exact ih l1 l2 (l3 + 1) (l4 + 1) h  ok (R_w fl1 (by decide)) (R_w fl2 (by decide)) (R_w f_4613 (by decide)) (R_w f_4615 (by decide)) (by omega)
      · have f_4619 : R 1 1 1 := ⟨by decide, by decide⟩
        have f_4618 : R 1 512 (l4 + 1) := R_add f_4598 f_4619 1 512 (by decide)
        have g_4620 := gap_inc (N := 512) f_4598 (by decide)
        exact ih l1 l2 l3 (l4 + 1) h  ok (R_w fl1 (by decide)) (R_w fl2 (by decide)) (R_w fl3 (by decide)) (R_w f_4618 (by decide)) (by omega)
set_option maxRecDepth 100000 in
set_option maxHeartbeats 4000000 in
theorem s_X11_forced {g : gT} {h : mh_T} {P : Int32 → mh_T → Prop} (l1 : Int32) (hG : GI h)  (hp : ∀ (r : Int32) h', Ok [300, 11] h h' → R (-2) 1 r → ¬ mI h' 11 11 = 4 → P r h') : MCi g yX11_forced uX11_forced [.ref 11, .int l1] h P := by
  have ok : Ok [300, 11] h h := Ok_rf hG
  refine e_X11_forced l1  ?_
  refine s_X11_good ok.1 (fun h1 ko_4621 t4 => ?_)
  have ok_4622 := Ok_tr ok ko_4621 (by decide)
  have hp : ∀ (r : Int32) h', Ok [300, 11] h1 h' → R (-2) 1 r → P r h' := fun r h' k x0 => hp r h' (Ok_tr ok_4622 k (by decide)) x0 (k.2.2.2.2.2.2.1 t4)
  have L0 := s_X11_forced_L (g := g) ok_4622.1 hp 513
  have ok_4622 : Ok [300, 11] h1 h1 := Ok_rf ok_4622.1
  refine ⟨fun c_4623 => ?_, fun c_4623 => ?_⟩
  · have f_4624 : R 0 1 (mI h1 11 14) := GI_rd ok_4622.1 11 _ (by decide)
    have f_4625 : R 0 0 0 := ⟨by decide, by decide⟩
    have f_4626 : R 0 0 (mI h1 11 14) := rf_eq f_4625 c_4623
    refine s_X11_no 1 ok_4622.1 (fun r4 h3 ko_4627 f_4629 => ?_)
    have ok_4628 := Ok_tr ok_4622 ko_4627 (by decide)
    exact hp _ _ ok_4628 (R_w f_4629 (by decide))
  · have f_4630 : R 0 1 (mI h1 11 14) := GI_rd ok_4622.1 11 _ (by decide)
    have f_4631 : R 0 0 0 := ⟨by decide, by decide⟩
    have f_4632 : R 1 1 (mI h1 11 14) := rf_ne_lo f_4630 c_4623 (by decide) 1 rfl
    refine s_X11_within l1 0 ((mI h1 45 (Int32.toNatClampNeg 51)) - 1) ok_4622.1 (fun r6 f_4634 im_4633 => ?_)
    refine ⟨fun c_4635 => ?_, fun c_4635 => ?_⟩
    · have f_4636 : R 0 0 0 := ⟨by decide, by decide⟩
      have f_4637 : R 0 0 0 := ⟨by decide, by decide⟩
      have f_4638 : R 0 2147483647 l1 := rf_le_r f_4637 (R_full l1) (im_4633 c_4635).1 0 (by decide)
      have f_4641 : R 0 9 (mI h 45 (Int32.toNatClampNeg 51)) := GI_rd ok.1 45 _ (by decide)
      have f_4640 : R 0 9 (mI h1 45 (Int32.toNatClampNeg 51)) := Ok_rd ko_4621 (by decide) f_4641
      have f_4642 : R 1 1 1 := ⟨by decide, by decide⟩
      have f_4639 : R (-1) 8 ((mI h1 45 (Int32.toNatClampNeg 51)) - 1) := R_sub f_4640 f_4642 (-1) 8 (by decide)
      have f_4643 : R 0 8 l1 := rf_le_l f_4638 f_4639 (im_4633 c_4635).2 8 (by decide)
      have f_4644 : R 0 8 ((mI h1 45 (Int32.toNatClampNeg 51)) - 1) := rf_le_r f_4638 f_4639 (im_4633 c_4635).2 0 (by decide)
      have f_4645 : R 1 9 (mI h1 45 (Int32.toNatClampNeg 51)) := R_um1 f_4640 f_4644 1 9 (by decide)
      have f_4646 : R 1 1 r6 := rf_ne_lo f_4634 c_4635 (by decide) 1 rfl
      have f_4647 : R 0 0 0 := ⟨by decide, by decide⟩
      have f_4648 : R 0 0 0 := ⟨by decide, by decide⟩
      have f_4649 : R 0 0 0 := ⟨by decide, by decide⟩
      have f_4650 : R 0 0 0 := ⟨by decide, by decide⟩
      have g_4651 := gap_le (N := 512) f_4650 (m := 512) (by decide)
      exact L0 l1 0 0 0 h1  ok_4622 (R_w f_4643 (by decide)) (R_w f_4647 (by decide)) (R_w f_4648 (by decide)) (R_w f_4649 (by decide)) (by omega)
    · have f_4652 : R 0 0 0 := ⟨by decide, by decide⟩
      have f_4653 : R 0 0 r6 := rf_eq f_4652 c_4635
      refine s_X11_no 1 ok_4622.1 (fun r9 h8 ko_4654 f_4656 => ?_)
      have ok_4655 := Ok_tr ok_4622 ko_4654 (by decide)
      exact hp _ _ ok_4655 (R_w f_4656 (by decide))
set_option maxRecDepth 100000 in
set_option maxHeartbeats 4000000 in
theorem s_X11_canLines_L {g : gT} {h0 : mh_T} {P : Int32 → mh_T → Prop} (hG0 : GI h0) (hp : ∀ r : Int32, R 0 1 r → P r h0) : ∀ n : Nat, (∀ (l1 : Int32) (l2 : Int32) (l3 : Int32), R (-2147483648) 2147483647 l1 → R 0 1 l2 → R 0 512 l3 → 1 * gap 512 l3 + 0 < n → ME g uX11_canLines 4 [.ref 11, .int l1, .int l2, .int l3] [] h0 (qI P)) := by
  intro n
  induction n with
  | zero =>
    exact (fun _ _ _ _ _ _ hm => absurd hm (Nat.not_lt_zero _))
  | succ n ih =>
    intro l1 l2 l3  fl1 fl2 fl3     hm
    have ok : Ok [] h0 h0 := Ok_rf hG0
    refine r_X11_canLines_4 l1 l2 l3  ?_
    refine ⟨fun c_1365 => ?_, fun c_1365 => ?_⟩
    · have f_1367 : R 0 9 (mI h0 45 (Int32.toNatClampNeg 51)) := GI_rd ok.1 45 _ (by decide)
      have f_1366 : R 1 512 (1 <<< ((mI h0 45 (Int32.toNatClampNeg 51)) &&& 31)) := R_shl f_1367 1 512 0 9 (by decide)
      have f_1368 : R 1 512 l3 := rf_le_r f_1366 fl3 c_1365 1 (by decide)
      exact ⟨R_z (R_w fl2 (by decide)), hp _ (R_w fl2 (by decide))⟩
    · have f_1370 : R 0 9 (mI h0 45 (Int32.toNatClampNeg 51)) := GI_rd ok.1 45 _ (by decide)
      have f_1369 : R 1 512 (1 <<< ((mI h0 45 (Int32.toNatClampNeg 51)) &&& 31)) := R_shl f_1370 1 512 0 9 (by decide)
      have f_1371 : R 0 511 l3 := rf_lt_l fl3 f_1369 (nle c_1365) 511 (by decide)
      refine ⟨fun c_1372 => ?_, fun c_1372 => ?_⟩
      · have f_1373 : R 0 0 0 := ⟨by decide, by decide⟩
        have f_1374 : R 1 1 l2 := rf_ne_lo fl2 c_1372 (by decide) 1 rfl
        exact ⟨R_z (R_w f_1374 (by decide)), hp _ (R_w f_1374 (by decide))⟩
      · have f_1375 : R 0 0 0 := ⟨by decide, by decide⟩
        have f_1376 : R 0 0 l2 := rf_eq f_1375 c_1372
        refine s_X11_linesBy l3 ok.1 (fun r4 f_1377 => ?_)
        refine ⟨fun c_1378 => ?_, fun c_1378 => ?_⟩
        · have f_1381 : R (-1) (-1) (-1) := ⟨by decide, by decide⟩
          have f_1380 : R (-2147483648) 2147483647 (r4 ^^^ (-1)) := R_full _
          have f_1379 : R (-2147483648) 2147483647 (l1 &&& (r4 ^^^ (-1))) := R_full _
          have f_1382 : R 0 0 0 := ⟨by decide, by decide⟩
          have f_1383 : R 0 0 0 := ⟨by decide, by decide⟩
          have f_1385 : R 1 1 1 := ⟨by decide, by decide⟩
          have f_1384 : R 1 512 (l3 + 1) := R_add f_1371 f_1385 1 512 (by decide)
          have g_1386 := gap_inc (N := 512) f_1371 (by decide)
          exact ih l1 0 (l3 + 1)  (R_w fl1 (by decide)) (R_w f_1383 (by decide)) (R_w f_1384 (by decide)) (by omega)
        · have f_1389 : R (-1) (-1) (-1) := ⟨by decide, by decide⟩
          have f_1388 : R (-2147483648) 2147483647 (r4 ^^^ (-1)) := R_full _
          have f_1387 : R (-2147483648) 2147483647 (l1 &&& (r4 ^^^ (-1))) := R_full _
          have f_1390 : R 0 0 0 := ⟨by decide, by decide⟩
          have f_1391 : R 0 0 (l1 &&& (r4 ^^^ (-1))) := rf_eq f_1390 c_1378
          have f_1392 : R 1 1 1 := ⟨by decide, by decide⟩
          have f_1394 : R 1 1 1 := ⟨by decide, by decide⟩
          have f_1393 : R 1 512 (l3 + 1) := R_add f_1371 f_1394 1 512 (by decide)
          have g_1395 := gap_inc (N := 512) f_1371 (by decide)
          exact ih l1 1 (l3 + 1)  (R_w fl1 (by decide)) (R_w f_1392 (by decide)) (R_w f_1393 (by decide)) (by omega)
set_option maxRecDepth 100000 in
set_option maxHeartbeats 4000000 in
theorem s_X11_canLines {g : gT} {h : mh_T} {P : Int32 → mh_T → Prop} (l1 : Int32) (hG : GI h)  (hp : ∀ r : Int32, R 0 1 r → P r h) : MCi g yX11_canLines uX11_canLines [.ref 11, .int l1] h P := by
  have ok : Ok [] h h := Ok_rf hG
  have L0 := s_X11_canLines_L (g := g) hG hp 513
  refine e_X11_canLines l1  ?_
  have f_1396 : R 0 0 0 := ⟨by decide, by decide⟩
  have f_1397 : R 0 0 0 := ⟨by decide, by decide⟩
  have f_1398 : R 0 0 0 := ⟨by decide, by decide⟩
  have g_1399 := gap_le (N := 512) f_1398 (m := 512) (by decide)
  exact L0 l1 0 0  (R_w (R_full l1) (by decide)) (R_w f_1396 (by decide)) (R_w f_1397 (by decide)) (by omega)
set_option maxRecDepth 100000 in
set_option maxHeartbeats 4000000 in
theorem s_X11_core_L {g : gT} {h0 : mh_T} {P : Int32 → mh_T → Prop} (hG0 : GI h0) (hp : ∀ (r : Int32) h', Ok [300, 11] h0 h' → R (-2) 255 r → P r h') : ∀ n : Nat, (∀ (l1 : Int32) (l2 : Int32) (h : mh_T), Ok [300, 11] h0 h → R (-2) 255 l1 → R 0 256 l2 → 1 * gap 256 l2 + 0 < n → ME g uX11_core 22 [.ref 11, .int l1, .int l2] [] h (qI P)) := by
  intro n
  induction n with
  | zero =>
    exact (fun _ _ _ _ _ _ hm => absurd hm (Nat.not_lt_zero _))
  | succ n ih =>
    intro l1 l2 h  ok fl1 fl2     hm
    refine r_X11_core_22 l1 l2  ?_
    refine s_X11_allLines ok.1 (fun r2 f_1970 => ?_)
    refine ⟨fun c_1971 => ?_, fun c_1971 => ?_⟩
    · have f_1972 : R 1 256 l2 := rf_lt_r f_1970 fl2 c_1971 1 (by decide)
      exact hp _ _ ok (R_w fl1 (by decide))
    · have f_1973 : R 0 255 l2 := rf_le_l fl2 f_1970 (nlt c_1971) 255 (by decide)
      refine ⟨fun c_1974 => ?_, fun c_1974 => ?_⟩
      · have f_1975 : R (-2) (-2) (-2) := ⟨by decide, by decide⟩
        have f_1976 : R (-2) (-2) l1 := rf_eq f_1975 c_1974
        refine s_X11_canLines l2 ok.1 (fun r6 f_1977 => ?_)
        refine ⟨fun c_1978 => ?_, fun c_1978 => ?_⟩
        · have f_1979 : R 0 0 0 := ⟨by decide, by decide⟩
          have f_1980 : R 1 1 r6 := rf_ne_lo f_1977 c_1978 (by decide) 1 rfl
          have f_1982 : R 1 1 1 := ⟨by decide, by decide⟩
          have f_1981 : R 1 256 (l2 + 1) := R_add f_1973 f_1982 1 256 (by decide)
          have g_1983 := gap_inc (N := 256) f_1973 (by decide)
          exact ih l1 (l2 + 1) h  ok (R_w f_1976 (by decide)) (R_w f_1981 (by decide)) (by omega)
        · have f_1984 : R 0 0 0 := ⟨by decide, by decide⟩
          have f_1985 : R 0 0 r6 := rf_eq f_1984 c_1978
          have f_1987 : R 1 1 1 := ⟨by decide, by decide⟩
          have f_1986 : R 1 256 (l2 + 1) := R_add f_1973 f_1987 1 256 (by decide)
          have g_1988 := gap_inc (N := 256) f_1973 (by decide)
          exact ih l2 (l2 + 1) h  ok (R_w f_1973 (by decide)) (R_w f_1986 (by decide)) (by omega)
      · have f_1989 : R (-2) (-2) (-2) := ⟨by decide, by decide⟩
        have f_1990 : R (-1) 255 l1 := rf_ne_lo fl1 c_1974 (by decide) (-1) rfl
        refine s_X11_bits l2 ok.1 (fun r9 => ?_)
        refine s_X11_bits l1 ok.1 (fun r11 => ?_)
        refine ⟨fun c_1991 => ?_, fun c_1991 => ?_⟩
        · have f_1992 : R (-2147483648) 2147483647 r9 := R_full _
          have f_1993 : R (-2147483648) 2147483647 r11 := R_full _
          have f_1995 : R 1 1 1 := ⟨by decide, by decide⟩
          have f_1994 : R 1 256 (l2 + 1) := R_add f_1973 f_1995 1 256 (by decide)
          have g_1996 := gap_inc (N := 256) f_1973 (by decide)
          exact ih l1 (l2 + 1) h  ok (R_w f_1990 (by decide)) (R_w f_1994 (by decide)) (by omega)
        · have f_1997 : R (-2147483648) 2147483647 r9 := R_full _
          have f_1998 : R (-2147483648) 2147483647 r11 := R_full _
          have f_1999 : R (-2147483648) 2147483646 r9 := rf_lt_l f_1997 f_1998 (nle c_1991) 2147483646 (by decide)
          have f_2000 : R (-2147483647) 2147483647 r11 := rf_lt_r f_1997 f_1998 (nle c_1991) (-2147483647) (by decide)
          refine s_X11_canLines l2 ok.1 (fun r14 f_2001 => ?_)
          refine ⟨fun c_2002 => ?_, fun c_2002 => ?_⟩
          · have f_2003 : R 0 0 0 := ⟨by decide, by decide⟩
            have f_2004 : R 1 1 r14 := rf_ne_lo f_2001 c_2002 (by decide) 1 rfl
            have f_2006 : R 1 1 1 := ⟨by decide, by decide⟩
            have f_2005 : R 1 256 (l2 + 1) := R_add f_1973 f_2006 1 256 (by decide)
            have g_2007 := gap_inc (N := 256) f_1973 (by decide)
            exact ih l1 (l2 + 1) h  ok (R_w f_1990 (by decide)) (R_w f_2005 (by decide)) (by omega)
          · have f_2008 : R 0 0 0 := ⟨by decide, by decide⟩
            have f_2009 : R 0 0 r14 := rf_eq f_2008 c_2002
            have f_2011 : R 1 1 1 := ⟨by decide, by decide⟩
            have f_2010 : R 1 256 (l2 + 1) := R_add f_1973 f_2011 1 256 (by decide)
            have g_2012 := gap_inc (N := 256) f_1973 (by decide)
            exact ih l2 (l2 + 1) h  ok (R_w f_1973 (by decide)) (R_w f_2010 (by decide)) (by omega)
set_option maxRecDepth 100000 in
set_option maxHeartbeats 4000000 in
theorem s_X11_core {g : gT} {h : mh_T} {P : Int32 → mh_T → Prop}  (hG : GI h)  (hp : ∀ (r : Int32) h', Ok [300, 11] h h' → R (-2) 255 r → ¬ mI h' 11 11 = 4 → P r h') : MCi g yX11_core uX11_core [.ref 11] h P := by
  have ok : Ok [300, 11] h h := Ok_rf hG
  refine e_X11_core   ?_
  refine s_X11_good ok.1 (fun h1 ko_2013 t4 => ?_)
  have ok_2014 := Ok_tr ok ko_2013 (by decide)
  have hp : ∀ (r : Int32) h', Ok [300, 11] h1 h' → R (-2) 255 r → P r h' := fun r h' k x0 => hp r h' (Ok_tr ok_2014 k (by decide)) x0 (k.2.2.2.2.2.2.1 t4)
  have L0 := s_X11_core_L (g := g) ok_2014.1 hp 257
  have ok_2014 : Ok [300, 11] h1 h1 := Ok_rf ok_2014.1
  refine ⟨fun c_2015 => ?_, fun c_2015 => ?_⟩
  · have f_2016 : R 0 1 (mI h1 11 14) := GI_rd ok_2014.1 11 _ (by decide)
    have f_2017 : R 0 0 0 := ⟨by decide, by decide⟩
    have f_2018 : R 1 1 (mI h1 11 14) := rf_ne_lo f_2016 c_2015 (by decide) 1 rfl
    have f_2019 : R (-2) (-2) (-2) := ⟨by decide, by decide⟩
    have f_2020 : R 0 0 0 := ⟨by decide, by decide⟩
    have f_2021 : R 0 0 0 := ⟨by decide, by decide⟩
    have g_2022 := gap_le (N := 256) f_2021 (m := 256) (by decide)
    exact L0 (-2) 0 h1  ok_2014 (R_w f_2019 (by decide)) (R_w f_2020 (by decide)) (by omega)
  · have f_2023 : R 0 1 (mI h1 11 14) := GI_rd ok_2014.1 11 _ (by decide)
    have f_2024 : R 0 0 0 := ⟨by decide, by decide⟩
    have f_2025 : R 0 0 (mI h1 11 14) := rf_eq f_2024 c_2015
    refine s_X11_no 1 ok_2014.1 (fun r4 h3 ko_2026 f_2028 => ?_)
    have ok_2027 := Ok_tr ok_2014 ko_2026 (by decide)
    exact hp _ _ ok_2027 (R_w f_2028 (by decide))
set_option maxRecDepth 100000 in
set_option maxHeartbeats 4000000 in
theorem s_X11_can {g : gT} {h : mh_T} {P : Int32 → mh_T → Prop} (l1 : Int32) (hG : GI h)  (hp : ∀ (r : Int32) h', Ok [300, 11] h h' → R (-1) 1 r → ¬ mI h' 11 11 = 4 → P r h') : MCi g yX11_can uX11_can [.ref 11, .int l1] h P := by
  have ok : Ok [300, 11] h h := Ok_rf hG
  refine e_X11_can l1  ?_
  refine s_X11_good ok.1 (fun h1 ko_35 t4 => ?_)
  have ok_36 := Ok_tr ok ko_35 (by decide)
  have hp : ∀ (r : Int32) h', Ok [300, 11] h1 h' → R (-1) 1 r → P r h' := fun r h' k x0 => hp r h' (Ok_tr ok_36 k (by decide)) x0 (k.2.2.2.2.2.2.1 t4)
  have ok_36 : Ok [300, 11] h1 h1 := Ok_rf ok_36.1
  refine ⟨fun c_37 => ?_, fun c_37 => ?_⟩
  · have f_38 : R 0 1 (mI h1 11 14) := GI_rd ok_36.1 11 _ (by decide)
    have f_39 : R 0 0 0 := ⟨by decide, by decide⟩
    have f_40 : R 1 1 (mI h1 11 14) := rf_ne_lo f_38 c_37 (by decide) 1 rfl
    refine s_X11_allLines ok_36.1 (fun r4 f_41 => ?_)
    refine s_X11_within l1 0 r4 ok_36.1 (fun r6 f_43 im_42 => ?_)
    refine ⟨fun c_44 => ?_, fun c_44 => ?_⟩
    · have f_45 : R 0 0 0 := ⟨by decide, by decide⟩
      have f_46 : R 0 0 r6 := rf_eq f_45 c_44
      refine s_X11_no 2 ok_36.1 (fun r9 h8 ko_47 f_49 => ?_)
      have ok_48 := Ok_tr ok_36 ko_47 (by decide)
      exact hp _ _ ok_48 (R_w f_49 (by decide))
    · have f_50 : R 0 0 0 := ⟨by decide, by decide⟩
      have f_51 : R 0 0 0 := ⟨by decide, by decide⟩
      have f_52 : R 0 2147483647 l1 := rf_le_r f_51 (R_full l1) (im_42 c_44).1 0 (by decide)
      have f_53 : R 0 255 l1 := rf_le_l f_52 f_41 (im_42 c_44).2 255 (by decide)
      have f_54 : R 1 1 r6 := rf_ne_lo f_43 c_44 (by decide) 1 rfl
      refine s_X11_canLines l1 ok_36.1 (fun r11 f_55 => ?_)
      refine ⟨fun c_56 => ?_, fun c_56 => ?_⟩
      · have f_57 : R 0 0 0 := ⟨by decide, by decide⟩
        have f_58 : R 0 0 r11 := rf_eq f_57 c_56
        have f_59 : R 0 0 0 := ⟨by decide, by decide⟩
        exact hp _ _ ok_36 (R_w f_59 (by decide))
      · have f_60 : R 0 0 0 := ⟨by decide, by decide⟩
        have f_61 : R 1 1 r11 := rf_ne_lo f_55 c_56 (by decide) 1 rfl
        have f_62 : R 1 1 1 := ⟨by decide, by decide⟩
        exact hp _ _ ok_36 (R_w f_62 (by decide))
  · have f_63 : R 0 1 (mI h1 11 14) := GI_rd ok_36.1 11 _ (by decide)
    have f_64 : R 0 0 0 := ⟨by decide, by decide⟩
    have f_65 : R 0 0 (mI h1 11 14) := rf_eq f_64 c_37
    refine s_X11_no 1 ok_36.1 (fun r14 h13 ko_66 f_68 => ?_)
    have ok_67 := Ok_tr ok_36 ko_66 (by decide)
    exact hp _ _ ok_67 (R_w f_68 (by decide))
set_option maxRecDepth 100000 in
set_option maxHeartbeats 4000000 in
theorem s_X11_game_L {g : gT} {h0 : mh_T} {P : Int32 → mh_T → Prop} (hG0 : GI h0) (hp : ∀ (r : Int32) h', Ok [300, 11] h0 h' → P r h') : ∀ n : Nat, (∀ (l1 : Int32) (l2 : Int32) (h : mh_T), Ok [300, 11] h0 h → R (-2147483648) 2147483647 l1 → R 0 512 l2 → 1 * gap 512 l2 + 0 < n → ME g uX11_game 21 [.ref 11, .int l1, .int l2] [] h (qI P)) := by
  intro n
  induction n with
  | zero =>
    exact (fun _ _ _ _ _ _ hm => absurd hm (Nat.not_lt_zero _))
  | succ n ih =>
    intro l1 l2 h  ok fl1 fl2     hm
    refine r_X11_game_21 l1 l2  ?_
    refine ⟨fun c_1466 => ?_, fun c_1466 => ?_⟩
    · have f_1468 : R 0 9 (mI h 45 (Int32.toNatClampNeg 51)) := GI_rd ok.1 45 _ (by decide)
      have f_1467 : R 1 512 (1 <<< ((mI h 45 (Int32.toNatClampNeg 51)) &&& 31)) := R_shl f_1468 1 512 0 9 (by decide)
      have f_1469 : R 1 512 l2 := rf_le_r f_1467 fl2 c_1466 1 (by decide)
      exact hp _ _ ok 
    · have f_1471 : R 0 9 (mI h 45 (Int32.toNatClampNeg 51)) := GI_rd ok.1 45 _ (by decide)
      have f_1470 : R 1 512 (1 <<< ((mI h 45 (Int32.toNatClampNeg 51)) &&& 31)) := R_shl f_1471 1 512 0 9 (by decide)
      have f_1472 : R 0 511 l2 := rf_lt_l fl2 f_1470 (nle c_1466) 511 (by decide)
      refine s_X11_linesBy l2 ok.1 (fun r3 f_1473 => ?_)
      refine s_X11_bits r3 ok.1 (fun r5 => ?_)
      refine ⟨fun c_1474 => ?_, fun c_1474 => ?_⟩
      · have f_1475 : R (-2147483648) 2147483647 r5 := R_full _
        have f_1477 : R 1 1 1 := ⟨by decide, by decide⟩
        have f_1476 : R 1 512 (l2 + 1) := R_add f_1472 f_1477 1 512 (by decide)
        have g_1478 := gap_inc (N := 512) f_1472 (by decide)
        exact ih l1 (l2 + 1) h  ok (R_w fl1 (by decide)) (R_w f_1476 (by decide)) (by omega)
      · have f_1479 : R (-2147483648) 2147483647 r5 := R_full _
        have f_1480 : R (-2147483648) 2147483646 l1 := rf_lt_l fl1 f_1479 (nle c_1474) 2147483646 (by decide)
        have f_1481 : R (-2147483647) 2147483647 r5 := rf_lt_r fl1 f_1479 (nle c_1474) (-2147483647) (by decide)
        refine s_X11_linesBy l2 ok.1 (fun r8 f_1482 => ?_)
        refine s_X11_bits r8 ok.1 (fun r10 => ?_)
        have f_1483 : R (-2147483648) 2147483647 r10 := R_full _
        have f_1485 : R 1 1 1 := ⟨by decide, by decide⟩
        have f_1484 : R 1 512 (l2 + 1) := R_add f_1472 f_1485 1 512 (by decide)
        have g_1486 := gap_inc (N := 512) f_1472 (by decide)
        exact ih r10 (l2 + 1) h  ok (R_w f_1483 (by decide)) (R_w f_1484 (by decide)) (by omega)
set_option maxRecDepth 100000 in
set_option maxHeartbeats 4000000 in
theorem s_X11_game {g : gT} {h : mh_T} {P : Int32 → mh_T → Prop}  (hG : GI h)  (hp : ∀ (r : Int32) h', Ok [300, 11] h h' → ¬ mI h' 11 11 = 4 → P r h') : MCi g yX11_game uX11_game [.ref 11] h P := by
  have ok : Ok [300, 11] h h := Ok_rf hG
  refine e_X11_game   ?_
  refine s_X11_good ok.1 (fun h1 ko_1487 t4 => ?_)
  have ok_1488 := Ok_tr ok ko_1487 (by decide)
  have hp : ∀ (r : Int32) h', Ok [300, 11] h1 h' → P r h' := fun r h' k => hp r h' (Ok_tr ok_1488 k (by decide)) (k.2.2.2.2.2.2.1 t4)
  have L0 := s_X11_game_L (g := g) ok_1488.1 hp 513
  have ok_1488 : Ok [300, 11] h1 h1 := Ok_rf ok_1488.1
  refine ⟨fun c_1489 => ?_, fun c_1489 => ?_⟩
  · have f_1490 : R 0 1 (mI h1 11 14) := GI_rd ok_1488.1 11 _ (by decide)
    have f_1491 : R 0 0 0 := ⟨by decide, by decide⟩
    have f_1492 : R 1 1 (mI h1 11 14) := rf_ne_lo f_1490 c_1489 (by decide) 1 rfl
    have f_1493 : R 0 0 0 := ⟨by decide, by decide⟩
    have f_1494 : R 0 0 0 := ⟨by decide, by decide⟩
    have f_1495 : R 0 0 0 := ⟨by decide, by decide⟩
    have g_1496 := gap_le (N := 512) f_1495 (m := 512) (by decide)
    exact L0 0 0 h1  ok_1488 (R_w f_1493 (by decide)) (R_w f_1494 (by decide)) (by omega)
  · have f_1497 : R 0 1 (mI h1 11 14) := GI_rd ok_1488.1 11 _ (by decide)
    have f_1498 : R 0 0 0 := ⟨by decide, by decide⟩
    have f_1499 : R 0 0 (mI h1 11 14) := rf_eq f_1498 c_1489
    refine s_X11_no 1 ok_1488.1 (fun r4 h3 ko_1500 f_1502 => ?_)
    have ok_1501 := Ok_tr ok_1488 ko_1500 (by decide)
    exact hp _ _ ok_1501 
set_option maxRecDepth 100000 in
set_option maxHeartbeats 4000000 in
theorem s_X11_areSquare_L {g : gT} {h0 : mh_T} {P : Int32 → mh_T → Prop} (hG0 : GI h0) (hp : ∀ r : Int32, R 0 1 r → P r h0) : ∀ n : Nat, (∀ (l1 : Int32) (l2 : Int32) (l3 : Int32) (l4 : Int32), R 0 17 l1 → R 0 17 l2 → R (-2147483648) 2147483647 l3 → R 0 4 l4 → 1 * gap 4 l4 + 0 < n → ME g uX11_areSquare 5 [.ref 11, .int l1, .int l2, .int l3, .int l4] [] h0 (qI P)) := by
  intro n
  induction n with
  | zero =>
    exact (fun _ _ _ _ _ _ _ _ hm => absurd hm (Nat.not_lt_zero _))
  | succ n ih =>
    intro l1 l2 l3 l4  fl1 fl2 fl3 fl4     hm
    have ok : Ok [] h0 h0 := Ok_rf hG0
    refine r_X11_areSquare_5 l1 l2 l3 l4  ?_
    refine ⟨fun c_125 => ?_, fun c_125 => ?_⟩
    · have f_126 : R 4 4 4 := ⟨by decide, by decide⟩
      have f_127 : R 4 4 l4 := rf_le_r f_126 fl4 c_125 4 (by decide)
      refine ⟨fun c_128 => ?_, fun c_128 => ?_⟩
      · have f_129 : R 0 0 0 := ⟨by decide, by decide⟩
        have f_130 : R 0 0 0 := ⟨by decide, by decide⟩
        exact hp _ (R_w f_130 (by decide))
      · have f_131 : R 0 0 0 := ⟨by decide, by decide⟩
        have f_132 : R 0 0 l3 := rf_eq f_131 c_128
        have f_133 : R 1 1 1 := ⟨by decide, by decide⟩
        exact hp _ (R_w f_133 (by decide))
    · have f_134 : R 4 4 4 := ⟨by decide, by decide⟩
      have f_135 : R 0 3 l4 := rf_lt_l fl4 f_134 (nle c_125) 3 (by decide)
      have f_138 : R 86 86 86 := ⟨by decide, by decide⟩
      have f_140 : R 4 4 4 := ⟨by decide, by decide⟩
      have f_139 : R 0 68 (4 * l1) := R_mul f_140 fl1 0 68 (by decide)
      have f_137 : R 86 154 (86 + (4 * l1)) := R_add f_138 f_139 86 154 (by decide)
      have f_136 : R 86 157 ((86 + (4 * l1)) + l4) := R_add f_137 f_135 86 157 (by decide)
      refine ⟨vin f_136 (by decide), ?_⟩
      have f_143 : R 86 86 86 := ⟨by decide, by decide⟩
      have f_145 : R 4 4 4 := ⟨by decide, by decide⟩
      have f_144 : R 0 68 (4 * l2) := R_mul f_145 fl2 0 68 (by decide)
      have f_142 : R 86 154 (86 + (4 * l2)) := R_add f_143 f_144 86 154 (by decide)
      have f_141 : R 86 157 ((86 + (4 * l2)) + l4) := R_add f_142 f_135 86 157 (by decide)
      refine ⟨vin f_141 (by decide), ?_⟩
      intro x5 ex5
      have f_148 : R (-2147483648) 2147483647 (mI h0 45 ((86 + (4 * l1)) + l4).toNatClampNeg) := R_full _
      have f_149 : R (-2147483648) 2147483647 (mI h0 45 ((86 + (4 * l2)) + l4).toNatClampNeg) := R_full _
      have f_147 : R (-2147483648) 2147483647 ((mI h0 45 ((86 + (4 * l1)) + l4).toNatClampNeg) * (mI h0 45 ((86 + (4 * l2)) + l4).toNatClampNeg)) := R_full _
      have f_146 : R (-2147483648) 2147483647 (l3 + ((mI h0 45 ((86 + (4 * l1)) + l4).toNatClampNeg) * (mI h0 45 ((86 + (4 * l2)) + l4).toNatClampNeg))) := R_full _
      have f_150 : R (-2147483648) 2147483647 x5 := rf_eq f_146 ex5
      have f_152 : R 1 1 1 := ⟨by decide, by decide⟩
      have f_151 : R 1 4 (l4 + 1) := R_add f_135 f_152 1 4 (by decide)
      have g_153 := gap_inc (N := 4) f_135 (by decide)
      exact ih l1 l2 x5 (l4 + 1)  (R_w fl1 (by decide)) (R_w fl2 (by decide)) (R_w f_150 (by decide)) (R_w f_151 (by decide)) (by omega)
set_option maxRecDepth 100000 in
set_option maxHeartbeats 4000000 in
theorem s_X11_areSquare {g : gT} {h : mh_T} {P : Int32 → mh_T → Prop} (l1 : Int32) (l2 : Int32) (hG : GI h) (fl1 : R 0 17 l1) (fl2 : R 0 17 l2) (hp : ∀ r : Int32, R 0 1 r → P r h) : MCi g yX11_areSquare uX11_areSquare [.ref 11, .int l1, .int l2] h P := by
  have ok : Ok [] h h := Ok_rf hG
  have L0 := s_X11_areSquare_L (g := g) hG hp 5
  refine e_X11_areSquare l1 l2  ?_
  have f_154 : R 0 0 0 := ⟨by decide, by decide⟩
  have f_155 : R 0 0 0 := ⟨by decide, by decide⟩
  have f_156 : R 0 0 0 := ⟨by decide, by decide⟩
  have g_157 := gap_le (N := 4) f_156 (m := 4) (by decide)
  exact L0 l1 l2 0 0  (R_w fl1 (by decide)) (R_w fl2 (by decide)) (R_w f_154 (by decide)) (R_w f_155 (by decide)) (by omega)
set_option maxRecDepth 100000 in
set_option maxHeartbeats 4000000 in
theorem s_X11_isRay {g : gT} {h : mh_T} {P : Int32 → mh_T → Prop} (l1 : Int32) (hG : GI h)  (hp : ∀ r : Int32, R 0 1 r → (¬ r = 0 → R 0 17 l1) → P r h) : MCi g yX11_isRay uX11_isRay [.ref 11, .int l1] h P := by
  have ok : Ok [] h h := Ok_rf hG
  refine e_X11_isRay l1  ?_
  refine ⟨fun c_28 => ?_, fun c_28 => ?_⟩
  · have f_29 : R 0 1 (mI h 11 14) := GI_rd ok.1 11 _ (by decide)
    have f_30 : R 0 0 0 := ⟨by decide, by decide⟩
    have f_31 : R 0 0 (mI h 11 14) := rf_eq f_30 c_28
    have f_32 : R 0 0 0 := ⟨by decide, by decide⟩
    exact hp _ (R_w f_32 (by decide)) (fun z => absurd rfl z)
  · have f_33 : R 0 1 (mI h 11 14) := GI_rd ok.1 11 _ (by decide)
    have f_34 : R 0 0 0 := ⟨by decide, by decide⟩
    have f_35 : R 1 1 (mI h 11 14) := rf_ne_lo f_33 c_28 (by decide) 1 rfl
    refine s_X11_within l1 0 ((mI h 45 (Int32.toNatClampNeg 85)) - 1) ok.1 (fun r3 f_37 im_36 => ?_)
    refine ⟨fun c_38 => ?_, fun c_38 => ?_⟩
    · have f_39 : R 0 0 0 := ⟨by decide, by decide⟩
      have f_40 : R 0 0 r3 := rf_eq f_39 c_38
      have f_41 : R 0 0 0 := ⟨by decide, by decide⟩
      exact hp _ (R_w f_41 (by decide)) (fun z => absurd rfl z)
    · have f_42 : R 0 0 0 := ⟨by decide, by decide⟩
      have f_43 : R 0 0 0 := ⟨by decide, by decide⟩
      have f_44 : R 0 2147483647 l1 := rf_le_r f_43 (R_full l1) (im_36 c_38).1 0 (by decide)
      have f_46 : R 0 18 (mI h 45 (Int32.toNatClampNeg 85)) := GI_rd ok.1 45 _ (by decide)
      have f_47 : R 1 1 1 := ⟨by decide, by decide⟩
      have f_45 : R (-1) 17 ((mI h 45 (Int32.toNatClampNeg 85)) - 1) := R_sub f_46 f_47 (-1) 17 (by decide)
      have f_48 : R 0 17 l1 := rf_le_l f_44 f_45 (im_36 c_38).2 17 (by decide)
      have f_49 : R 0 17 ((mI h 45 (Int32.toNatClampNeg 85)) - 1) := rf_le_r f_44 f_45 (im_36 c_38).2 0 (by decide)
      have f_50 : R 1 18 (mI h 45 (Int32.toNatClampNeg 85)) := R_um1 f_46 f_49 1 18 (by decide)
      have f_51 : R 1 1 r3 := rf_ne_lo f_37 c_38 (by decide) 1 rfl
      have f_52 : R 1 1 1 := ⟨by decide, by decide⟩
      have f_53 : R 1 1 1 := ⟨by decide, by decide⟩
      have f_54 : R 0 0 0 := ⟨by decide, by decide⟩
      exact hp _ (R_w f_52 (by decide)) (fun _ => R_w f_48 (by decide))
set_option maxRecDepth 100000 in
set_option maxHeartbeats 4000000 in
theorem s_X11_square {g : gT} {h : mh_T} {P : Int32 → mh_T → Prop} (l1 : Int32) (l2 : Int32) (hG : GI h)  (hp : ∀ (r : Int32) h', Ok [300, 11] h h' → R (-1) 1 r → ¬ mI h' 11 11 = 4 → P r h') : MCi g yX11_square uX11_square [.ref 11, .int l1, .int l2] h P := by
  have ok : Ok [300, 11] h h := Ok_rf hG
  refine e_X11_square l1 l2  ?_
  refine s_X11_good ok.1 (fun h1 ko_37 t4 => ?_)
  have ok_38 := Ok_tr ok ko_37 (by decide)
  have hp : ∀ (r : Int32) h', Ok [300, 11] h1 h' → R (-1) 1 r → P r h' := fun r h' k x0 => hp r h' (Ok_tr ok_38 k (by decide)) x0 (k.2.2.2.2.2.2.1 t4)
  have ok_38 : Ok [300, 11] h1 h1 := Ok_rf ok_38.1
  refine s_X11_isRay l1 ok_38.1 (fun r3 f_40 im_39 => ?_)
  refine ⟨fun c_41 => ?_, fun c_41 => ?_⟩
  · have f_42 : R 0 0 0 := ⟨by decide, by decide⟩
    have f_43 : R 0 0 r3 := rf_eq f_42 c_41
    refine s_X11_no 1 ok_38.1 (fun r6 h5 ko_44 f_46 => ?_)
    have ok_45 := Ok_tr ok_38 ko_44 (by decide)
    exact hp _ _ ok_45 (R_w f_46 (by decide))
  · have f_47 : R 0 0 0 := ⟨by decide, by decide⟩
    have f_48 := (im_39 c_41)
    have f_49 : R 1 1 r3 := rf_ne_lo f_40 c_41 (by decide) 1 rfl
    refine s_X11_isRay l2 ok_38.1 (fun r8 f_51 im_50 => ?_)
    refine ⟨fun c_52 => ?_, fun c_52 => ?_⟩
    · have f_53 : R 0 0 0 := ⟨by decide, by decide⟩
      have f_54 : R 0 0 r8 := rf_eq f_53 c_52
      refine s_X11_no 1 ok_38.1 (fun r11 h10 ko_55 f_57 => ?_)
      have ok_56 := Ok_tr ok_38 ko_55 (by decide)
      exact hp _ _ ok_56 (R_w f_57 (by decide))
    · have f_58 : R 0 0 0 := ⟨by decide, by decide⟩
      have f_59 := (im_50 c_52)
      have f_60 : R 1 1 r8 := rf_ne_lo f_51 c_52 (by decide) 1 rfl
      refine ⟨fun c_61 => ?_, fun c_61 => ?_⟩
      · refine s_X11_no 1 ok_38.1 (fun r14 h13 ko_62 f_64 => ?_)
        have ok_63 := Ok_tr ok_38 ko_62 (by decide)
        exact hp _ _ ok_63 (R_w f_64 (by decide))
      · refine s_X11_areSquare l1 l2 ok_38.1 (R_w f_48 (by decide)) (R_w f_59 (by decide)) (fun r16 f_65 => ?_)
        refine ⟨fun c_66 => ?_, fun c_66 => ?_⟩
        · have f_67 : R 0 0 0 := ⟨by decide, by decide⟩
          have f_68 : R 0 0 r16 := rf_eq f_67 c_66
          have f_69 : R 0 0 0 := ⟨by decide, by decide⟩
          exact hp _ _ ok_38 (R_w f_69 (by decide))
        · have f_70 : R 0 0 0 := ⟨by decide, by decide⟩
          have f_71 : R 1 1 r16 := rf_ne_lo f_65 c_66 (by decide) 1 rfl
          have f_72 : R 1 1 1 := ⟨by decide, by decide⟩
          exact hp _ _ ok_38 (R_w f_72 (by decide))
def ch2 : Nat → Nat
  | 0 => 0
  | n + 1 => n + ch2 n
def ch3 : Nat → Nat
  | 0 => 0
  | n + 1 => ch2 n + ch3 n
def ch4 : Nat → Nat
  | 0 => 0
  | n + 1 => ch3 n + ch4 n
set_option maxRecDepth 100000 in
set_option maxHeartbeats 4000000 in
theorem s_X11_layCorners_82 {g : gT} {h0 : mh_T} {P : mh_T → Prop} (hp : ∀ h', Ok [300, 11, 56, 57] h0 h' → P h') : ∀ n : Nat,
    (∀ (l1 : Int32) (h : mh_T), Ok [300, 11, 56, 57] h0 h → R 0 18 l1 → (mI h 11 34).toInt + ch4 (gap 18 l1) ≤ 3060 → 8000 * gap 18 l1 + 7999 < n → ME g uX11_layCorners 82 [.ref 11, .int l1, .retAddr 0, .retAddr 0, .retAddr 0] [] h (qV P))
    ∧ (∀ (l1 l2 : Int32) (h : mh_T), Ok [300, 11, 56, 57] h0 h → R 0 17 l1 → R 0 18 l2 → (mI h 11 34).toInt + (ch3 (gap 18 l2) + ch4 (gap 18 (l1 + 1)) : Nat) ≤ 3060 → 8000 * gap 18 l1 + 400 * gap 18 l2 + 399 < n → ME g uX11_layCorners 97 [.ref 11, .int l1, .int l2, .retAddr 0, .retAddr 0] [] h (qV P))
    ∧ (∀ (l1 l2 l3 : Int32) (h : mh_T), Ok [300, 11, 56, 57] h0 h → R 0 17 l1 → R 0 17 l2 → R 0 18 l3 → (mI h 11 34).toInt + (ch2 (gap 18 l3) + ch3 (gap 18 (l2 + 1)) + ch4 (gap 18 (l1 + 1)) : Nat) ≤ 3060 → 8000 * gap 18 l1 + 400 * gap 18 l2 + 20 * gap 18 l3 + 19 < n → ME g uX11_layCorners 128 [.ref 11, .int l1, .int l2, .int l3, .retAddr 0] [] h (qV P))
    ∧ (∀ (l1 l2 l3 l4 : Int32) (h : mh_T), Ok [300, 11, 56, 57] h0 h → R 0 17 l1 → R 0 17 l2 → R 0 17 l3 → R 0 18 l4 → (mI h 11 34).toInt + (gap 18 l4 + ch2 (gap 18 (l3 + 1)) + ch3 (gap 18 (l2 + 1)) + ch4 (gap 18 (l1 + 1)) : Nat) ≤ 3060 → 8000 * gap 18 l1 + 400 * gap 18 l2 + 20 * gap 18 l3 + gap 18 l4 < n → ME g uX11_layCorners 167 [.ref 11, .int l1, .int l2, .int l3, .int l4] [] h (qV P)) := by
  intro n
  induction n with
  | zero => exact ⟨fun _ _ _ _ _ hn => absurd hn (Nat.not_lt_zero _), fun _ _ _ _ _ _ _ hn => absurd hn (Nat.not_lt_zero _), fun _ _ _ _ _ _ _ _ _ hn => absurd hn (Nat.not_lt_zero _), fun _ _ _ _ _ _ _ _ _ _ _ hn => absurd hn (Nat.not_lt_zero _)⟩
  | succ n ih =>
    have c1 : R 1 1 1 := ⟨by decide, by decide⟩
    refine ⟨fun l1 h ok f1 hc hn => ?_, fun l1 l2 h ok f1 f2 hc hn => ?_, fun l1 l2 l3 h ok f1 f2 f3 hc hn => ?_, fun l1 l2 l3 l4 h ok f1 f2 f3 f4 hc hn => ?_⟩
    · have fm : R 0 18 (mI h 45 (Int32.toNatClampNeg 85)) := GI_rd ok.1 45 _ (by decide)
      refine r_X11_layCorners_82 l1 ⟨fun _ => hp h ok, fun c => fun x2 e2 => ?_⟩
      have g1 : R 0 17 l1 := rf_lt_l f1 fm (nle c) 17 (by decide)
      have gi := gap_inc (N := 18) g1 (by decide)
      subst e2
      have fx := R_add g1 c1 1 18 (by decide)
      have gb := gap_le (N := 18) fx (m := 17) (by decide)
      rw [← gi] at hc
      have hc : (mI h 11 34).toInt + ((ch3 (gap 18 (l1 + 1)) + ch4 (gap 18 (l1 + 1)) : Nat) : Int) ≤ 3060 := hc
      exact ih.2.1 l1 (l1 + 1) h ok g1 (R_w fx (by decide)) hc (by omega)
    · have fm : R 0 18 (mI h 45 (Int32.toNatClampNeg 85)) := GI_rd ok.1 45 _ (by decide)
      have gi := gap_inc (N := 18) f1 (by decide)
      refine r_X11_layCorners_97 l1 l2 ⟨fun _ => ?_, fun c => ?_⟩
      · refine ih.1 (l1 + 1) h ok (R_add f1 c1 0 18 (by decide)) (by omega) (by omega)
      · have g2 : R 0 17 l2 := rf_lt_l f2 fm (nle c) 17 (by decide)
        have gj := gap_inc (N := 18) g2 (by decide)
        have fx := R_add g2 c1 1 18 (by decide)
        have gb := gap_le (N := 18) fx (m := 17) (by decide)
        rw [← gj] at hc
        have hc : (mI h 11 34).toInt + (((ch2 (gap 18 (l2 + 1)) + ch3 (gap 18 (l2 + 1))) + ch4 (gap 18 (l1 + 1)) : Nat) : Int) ≤ 3060 := hc
        refine ⟨vin f1 (by decide), s_X11_has _ _ ok.1 (fun r4 _ => ⟨fun _ x6 e6 => ?_, fun _ => ?_⟩)⟩
        · subst e6
          exact ih.2.2.1 l1 l2 (l2 + 1) h ok f1 g2 (R_w fx (by decide)) hc (by omega)
        · exact ih.2.1 l1 (l2 + 1) h ok f1 (R_w fx (by decide)) (by omega) (by omega)
    · have fm : R 0 18 (mI h 45 (Int32.toNatClampNeg 85)) := GI_rd ok.1 45 _ (by decide)
      have gi := gap_inc (N := 18) f2 (by decide)
      refine r_X11_layCorners_128 l1 l2 l3 ⟨fun _ => ?_, fun c => ?_⟩
      · refine ih.2.1 l1 (l2 + 1) h ok f1 (R_add f2 c1 0 18 (by decide)) (by omega) (by omega)
      · have g3 : R 0 17 l3 := rf_lt_l f3 fm (nle c) 17 (by decide)
        have gj := gap_inc (N := 18) g3 (by decide)
        have fx := R_add g3 c1 1 18 (by decide)
        have gb := gap_le (N := 18) fx (m := 17) (by decide)
        rw [← gj] at hc
        have hc : (mI h 11 34).toInt + (((gap 18 (l3 + 1) + ch2 (gap 18 (l3 + 1))) + ch3 (gap 18 (l2 + 1)) + ch4 (gap 18 (l1 + 1)) : Nat) : Int) ≤ 3060 := hc
        refine ⟨vin f1 (by decide), vin f2 (by decide), s_X11_has _ _ ok.1 (fun r5 _ => ⟨fun _ x7 e7 => ?_, fun _ => ?_⟩)⟩
        · subst e7
          exact ih.2.2.2 l1 l2 l3 (l3 + 1) h ok f1 f2 g3 (R_w fx (by decide)) hc (by omega)
        · exact ih.2.2.1 l1 l2 (l3 + 1) h ok f1 f2 (R_w fx (by decide)) (by omega) (by omega)
    · have fm : R 0 18 (mI h 45 (Int32.toNatClampNeg 85)) := GI_rd ok.1 45 _ (by decide)
      have gi := gap_inc (N := 18) f3 (by decide)
      refine r_X11_layCorners_167 l1 l2 l3 l4 ⟨fun _ => ?_, fun c => ?_⟩
      · refine ih.2.2.1 l1 l2 (l3 + 1) h ok f1 f2 (R_add f3 c1 0 18 (by decide)) (by omega) (by omega)
      · have g4 : R 0 17 l4 := rf_lt_l f4 fm (nle c) 17 (by decide)
        have gj := gap_inc (N := 18) g4 (by decide)
        have fx := R_add g4 c1 0 18 (by decide)
        have fk : R 0 3060 (mI h 11 34) := GI_rd ok.1 11 34 (by decide)
        have fk' : R 0 3059 (mI h 11 34) := ⟨fk.1, by omega⟩
        have ek := ti_inc fk' (by decide)
        refine ⟨vin f1 (by decide), vin f2 (by decide), vin f3 (by decide), s_X11_has _ _ ok.1 (fun r6 _ => ⟨fun _ => ⟨vin fk' (by decide), ?_⟩, fun _ => ?_⟩)⟩
        · have o1 := Ok_w ok (k := 56) (j := (mI h 11 34).toNatClampNeg) (v := ((((1 <<< (l1 &&& 31)) ||| (1 <<< (l2 &&& 31))) ||| (1 <<< (l3 &&& 31))) ||| (1 <<< (l4 &&& 31)))) (rgc_56 _) (R_full _) (by decide) (nt_k (by decide))
          rw [show mI (wI h 56 (mI h 11 34).toNatClampNeg ((((1 <<< (l1 &&& 31)) ||| (1 <<< (l2 &&& 31))) ||| (1 <<< (l3 &&& 31))) ||| (1 <<< (l4 &&& 31)))) 11 34 = mI h 11 34 from by rw [mI_wI, if_neg (fun z => absurd z.1 (by decide))]]
          have o2 := Ok_w o1 (k := 11) (j := 34) (v := mI h 11 34 + 1) (lo := 0) (hi := 3060) (by decide) (R_add fk' c1 0 3060 (by decide)) (by decide) (by decide)
          refine ih.2.2.2 l1 l2 l3 (l4 + 1) _ o2 f1 f2 f3 fx ?_ (by omega)
          rw [mI_wI, if_pos ⟨rfl, rfl⟩, ek]
          omega
        · exact ih.2.2.2 l1 l2 l3 (l4 + 1) h ok f1 f2 f3 fx (by omega) (by omega)
set_option maxRecDepth 100000 in
set_option maxHeartbeats 4000000 in
theorem s_X11_layCorners_7 {g : gT} {h0 : mh_T} {P : mh_T → Prop} (hp : ∀ h', Ok [300, 11, 56, 57] h0 h' → P h') : ∀ n : Nat,
    (∀ (l1 : Int32) (h : mh_T), Ok [300, 11, 56, 57] h0 h → mI h 11 34 = 0 → R 0 18 l1 → 20 * gap 18 l1 + 19 < n → ME g uX11_layCorners 7 [.ref 11, .int l1, .retAddr 0, .retAddr 0, .retAddr 0] [] h (qV P))
    ∧ (∀ (l1 l2 : Int32) (h : mh_T), Ok [300, 11, 56, 57] h0 h → mI h 11 34 = 0 → R 0 17 l1 → R 0 18 l2 → 20 * gap 18 l1 + gap 18 l2 < n → ME g uX11_layCorners 27 [.ref 11, .int l1, .int l2, .retAddr 0, .retAddr 0] [] h (qV P)) := by
  intro n
  induction n with
  | zero => exact ⟨fun _ _ _ _ _ hn => absurd hn (Nat.not_lt_zero _), fun _ _ _ _ _ _ _ hn => absurd hn (Nat.not_lt_zero _)⟩
  | succ n ih =>
    have c1 : R 1 1 1 := ⟨by decide, by decide⟩
    have c0 : R 0 18 0 := ⟨by decide, by decide⟩
    have g0 := gap_le (N := 18) c0 (m := 18) (by decide)
    have ky : ∀ (h : mh_T) (j : Nat) (v : Int32), mI h 11 34 = 0 → mI (wI h 57 j v) 11 34 = 0 := fun h j v e => by
      rw [mI_wI, if_neg (fun z => absurd z.1 (by decide))]
      exact e
    refine ⟨fun l1 h ok ez f1 hn => ?_, fun l1 l2 h ok ez f1 f2 hn => ?_⟩
    · have fm : R 0 18 (mI h 45 (Int32.toNatClampNeg 85)) := GI_rd ok.1 45 _ (by decide)
      refine r_X11_layCorners_7 l1 ⟨fun _ => ?_, fun c => ?_⟩
      · refine (s_X11_layCorners_82 hp 152000).1 0 h ok c0 ?_ (by decide)
        rw [ez]
        decide
      · have g1 : R 0 17 l1 := rf_lt_l f1 fm (nle c) 17 (by decide)
        have o1 := Ok_w ok (k := 57) (j := l1.toNatClampNeg) (v := 0) (rgc_57 _) (R_full _) (by decide) (nt_k (by decide))
        exact ⟨vin g1 (by decide), ih.2 l1 0 _ o1 (ky _ _ _ ez) g1 c0 (by omega)⟩
    · have fm : R 0 18 (mI h 45 (Int32.toNatClampNeg 85)) := GI_rd ok.1 45 _ (by decide)
      have gi := gap_inc (N := 18) f1 (by decide)
      refine r_X11_layCorners_27 l1 l2 ⟨fun _ => ih.1 (l1 + 1) h ok ez (R_add f1 c1 0 18 (by decide)) (by omega), fun c => ?_⟩
      have g2 : R 0 17 l2 := rf_lt_l f2 fm (nle c) 17 (by decide)
      have gj := gap_inc (N := 18) g2 (by decide)
      have v1 : vp_in l1 18 := vin f1 (by decide)
      have go : ∀ v : Int32, ME g uX11_layCorners 27 [.ref 11, .int l1, .int (l2 + 1), .retAddr 0, .retAddr 0] [] (wI h 57 l1.toNatClampNeg v) (qV P) := fun v => ih.2 l1 (l2 + 1) _ (Ok_w ok (k := 57) (j := l1.toNatClampNeg) (v := v) (rgc_57 _) (R_full _) (by decide) (nt_k (by decide))) (ky _ _ _ ez) f1 (R_add g2 c1 0 18 (by decide)) (by omega)
      refine ⟨v1, fun _ => ⟨v1, go _⟩, fun _ => ?_⟩
      exact s_X11_areSquare l1 l2 ok.1 f1 g2 (fun r6 _ => ⟨fun _ => ⟨v1, go _⟩, fun _ => ⟨v1, go _⟩⟩)
theorem s_X11_layCorners {g : gT} {h : mh_T} {P : mh_T → Prop} (hG : GI h) (hp : ∀ h', Ok [300, 11, 56, 57] h h' → P h') : MCv g yX11_layCorners uX11_layCorners [.ref 11] h P := by
  have o1 := Ok_w (ms := [300, 11, 56, 57]) (Ok_rf hG) (k := 11) (j := 34) (v := 0) (lo := 0) (hi := 3060) (by decide) ⟨by decide, by decide⟩ (by decide) (by decide)
  exact e_X11_layCorners ((s_X11_layCorners_7 hp 400).1 0 _ o1 (by rw [mI_wI, if_pos ⟨rfl, rfl⟩]) ⟨by decide, by decide⟩ (by decide))
