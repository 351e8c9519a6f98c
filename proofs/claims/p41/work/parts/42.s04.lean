set_option maxRecDepth 100000 in
set_option maxHeartbeats 4000000 in
theorem s_X10_same {g : gT} {h : mh_T} {P : Int32 → mh_T → Prop} (l1 : Int32) (hG : GI h)  (hp : ∀ (r : Int32) h', Ok [0] h h' → ¬ mI h' 0 11 = 4 → P r h') : MCi g yX10_same uX10_same [.ref 0, .int l1] h P := by
  have ok : Ok [0] h h := Ok_rf hG
  refine e_X10_same l1  ?_
  refine s_X8_hasPair l1 ok.1 (fun r2 f_16 im_15 => ?_)
  refine ⟨fun c_17 => ?_, fun c_17 => ?_⟩
  · have f_18 : R 0 0 0 := ⟨by decide, by decide⟩
    have f_19 := (im_15 c_17)
    have f_20 : R 1 1 r2 := rf_ne_lo f_16 c_17 (by decide) 1 rfl
    refine s_X8_alike l1 ok.1 (R_w f_19 (by decide)) (fun r5 => ?_)
    refine s_X10_told r5 ok.1 (fun r7 h6 ko_21 tq => ?_)
    have ok_22 := Ok_tr ok ko_21 (by decide)
    have f_23 : R (-2147483648) 2147483647 r7 := R_full _
    exact hp _ _ ok_22 (by first | exact tq | exact tq (by decide) | (rw [mI_wI, if_pos ⟨rfl, rfl⟩]; decide)) 
  · have f_24 : R 0 0 0 := ⟨by decide, by decide⟩
    have f_25 : R 0 0 r2 := rf_eq f_24 c_17
    have f_26 : R 1 1 1 := ⟨by decide, by decide⟩
    have ok_27 := Ok_w ok (k := 0) (j := 11) (v := 1) (lo := (-2147483648)) (hi := 2147483647) (by decide) (R_w f_26 (by decide)) (by decide) (by decide)
    have f_28 : R (-1000) (-1000) (-1000) := ⟨by decide, by decide⟩
    exact hp _ _ ok_27 (by first | exact tq | exact tq (by decide) | (rw [mI_wI, if_pos ⟨rfl, rfl⟩]; decide)) 
set_option maxRecDepth 100000 in
set_option maxHeartbeats 4000000 in
theorem s_X10_cycles {g : gT} {h : mh_T} {P : Int32 → mh_T → Prop}  (hG : GI h)  (hp : ∀ (r : Int32) h', Ok [0] h h' → ¬ mI h' 0 11 = 4 → P r h') : MCi g yX10_cycles uX10_cycles [.ref 0] h P := by
  have ok : Ok [0] h h := Ok_rf hG
  refine e_X10_cycles   ?_
  refine s_X10_noBook ok.1 (fun r2 f_13 => ?_)
  refine ⟨fun c_14 => ?_, fun c_14 => ?_⟩
  · have f_15 : R 0 0 0 := ⟨by decide, by decide⟩
    have f_16 : R 0 0 r2 := rf_eq f_15 c_14
    refine s_X7_number ok.1 (fun r5 => ?_)
    refine s_X10_told r5 ok.1 (fun r7 h6 ko_17 tq => ?_)
    have ok_18 := Ok_tr ok ko_17 (by decide)
    have f_19 : R (-2147483648) 2147483647 r7 := R_full _
    exact hp _ _ ok_18 (by first | exact tq | exact tq (by decide) | (rw [mI_wI, if_pos ⟨rfl, rfl⟩]; decide)) 
  · have f_20 : R 0 0 0 := ⟨by decide, by decide⟩
    have f_21 : R 1 1 r2 := rf_ne_lo f_13 c_14 (by decide) 1 rfl
    refine s_X10_refused 1 ok.1 (fun r9 h8 ko_22 f_24 tq => ?_)
    have ok_23 := Ok_tr ok ko_22 (by decide)
    exact hp _ _ ok_23 (by first | exact tq | exact tq (by decide) | (rw [mI_wI, if_pos ⟨rfl, rfl⟩]; decide)) 
set_option maxRecDepth 100000 in
set_option maxHeartbeats 4000000 in
theorem s_X10_cycle {g : gT} {h : mh_T} {P : Int32 → mh_T → Prop} (l1 : Int32) (hG : GI h)  (hp : ∀ (r : Int32) h', Ok [0] h h' → ¬ mI h' 0 11 = 4 → P r h') : MCi g yX10_cycle uX10_cycle [.ref 0, .int l1] h P := by
  have ok : Ok [0] h h := Ok_rf hG
  refine e_X10_cycle l1  ?_
  refine s_X10_noBook ok.1 (fun r2 f_22 => ?_)
  refine ⟨fun c_23 => ?_, fun c_23 => ?_⟩
  · have f_24 : R 0 0 0 := ⟨by decide, by decide⟩
    have f_25 : R 0 0 r2 := rf_eq f_24 c_23
    refine s_X7_ringAt l1 ok.1 (fun r5 f_26 => ?_)
    refine ⟨fun c_27 => ?_, fun c_27 => ?_⟩
    · have f_28 : R 0 0 0 := ⟨by decide, by decide⟩
      have f_29 : R 0 255 r5 := rf_le_r f_28 f_26 c_27 0 (by decide)
      refine s_X10_told r5 ok.1 (fun r8 h7 ko_30 tq => ?_)
      have ok_31 := Ok_tr ok ko_30 (by decide)
      have f_32 : R (-2147483648) 2147483647 r8 := R_full _
      exact hp _ _ ok_31 (by first | exact tq | exact tq (by decide) | (rw [mI_wI, if_pos ⟨rfl, rfl⟩]; decide)) 
    · have f_33 : R 0 0 0 := ⟨by decide, by decide⟩
      have f_34 : R (-1) (-1) r5 := rf_lt_l f_26 f_33 (nle c_27) (-1) (by decide)
      refine s_X10_refused 1 ok.1 (fun r10 h9 ko_35 f_37 tq => ?_)
      have ok_36 := Ok_tr ok ko_35 (by decide)
      exact hp _ _ ok_36 (by first | exact tq | exact tq (by decide) | (rw [mI_wI, if_pos ⟨rfl, rfl⟩]; decide)) 
  · have f_38 : R 0 0 0 := ⟨by decide, by decide⟩
    have f_39 : R 1 1 r2 := rf_ne_lo f_22 c_23 (by decide) 1 rfl
    refine s_X10_refused 1 ok.1 (fun r13 h12 ko_40 f_42 tq => ?_)
    have ok_41 := Ok_tr ok ko_40 (by decide)
    exact hp _ _ ok_41 (by first | exact tq | exact tq (by decide) | (rw [mI_wI, if_pos ⟨rfl, rfl⟩]; decide)) 
set_option maxRecDepth 100000 in
set_option maxHeartbeats 4000000 in
theorem s_X10_excess {g : gT} {h : mh_T} {P : Int32 → mh_T → Prop} (l1 : Int32) (hG : GI h)  (hp : ∀ (r : Int32) h', Ok [0] h h' → ¬ mI h' 0 11 = 4 → P r h') : MCi g yX10_excess uX10_excess [.ref 0, .int l1] h P := by
  have ok : Ok [0] h h := Ok_rf hG
  refine e_X10_excess l1  ?_
  refine s_X10_noBook ok.1 (fun r2 f_22 => ?_)
  refine ⟨fun c_23 => ?_, fun c_23 => ?_⟩
  · have f_24 : R 0 0 0 := ⟨by decide, by decide⟩
    have f_25 : R 0 0 r2 := rf_eq f_24 c_23
    refine s_X7_isRing l1 ok.1 (fun r5 f_26 => ?_)
    refine ⟨fun c_27 => ?_, fun c_27 => ?_⟩
    · have f_28 : R 0 0 0 := ⟨by decide, by decide⟩
      have f_29 : R 1 1 r5 := rf_ne_lo f_26 c_27 (by decide) 1 rfl
      refine s_X7_surplus l1 ok.1 (fun r8 => ?_)
      refine s_X10_told r8 ok.1 (fun r10 h9 ko_30 tq => ?_)
      have ok_31 := Ok_tr ok ko_30 (by decide)
      have f_32 : R (-2147483648) 2147483647 r10 := R_full _
      exact hp _ _ ok_31 (by first | exact tq | exact tq (by decide) | (rw [mI_wI, if_pos ⟨rfl, rfl⟩]; decide)) 
    · have f_33 : R 0 0 0 := ⟨by decide, by decide⟩
      have f_34 : R 0 0 r5 := rf_eq f_33 c_27
      have f_35 : R 5 5 5 := ⟨by decide, by decide⟩
      have ok_36 := Ok_w ok (k := 0) (j := 11) (v := 5) (lo := (-2147483648)) (hi := 2147483647) (by decide) (R_w f_35 (by decide)) (by decide) (by decide)
      have f_37 : R (-1000) (-1000) (-1000) := ⟨by decide, by decide⟩
      exact hp _ _ ok_36 (by first | exact tq | exact tq (by decide) | (rw [mI_wI, if_pos ⟨rfl, rfl⟩]; decide)) 
  · have f_38 : R 0 0 0 := ⟨by decide, by decide⟩
    have f_39 : R 1 1 r2 := rf_ne_lo f_22 c_23 (by decide) 1 rfl
    have f_40 : R 1 1 1 := ⟨by decide, by decide⟩
    have ok_41 := Ok_w ok (k := 0) (j := 11) (v := 1) (lo := (-2147483648)) (hi := 2147483647) (by decide) (R_w f_40 (by decide)) (by decide) (by decide)
    have f_42 : R (-1000) (-1000) (-1000) := ⟨by decide, by decide⟩
    exact hp _ _ ok_41 (by first | exact tq | exact tq (by decide) | (rw [mI_wI, if_pos ⟨rfl, rfl⟩]; decide)) 
set_option maxRecDepth 100000 in
set_option maxHeartbeats 4000000 in
theorem s_X10_widest {g : gT} {h : mh_T} {P : Int32 → mh_T → Prop}  (hG : GI h)  (hp : ∀ (r : Int32) h', Ok [0] h h' → ¬ mI h' 0 11 = 4 → P r h') : MCi g yX10_widest uX10_widest [.ref 0] h P := by
  have ok : Ok [0] h h := Ok_rf hG
  refine e_X10_widest   ?_
  refine s_X10_noBook ok.1 (fun r2 f_14 => ?_)
  refine ⟨fun c_15 => ?_, fun c_15 => ?_⟩
  · have f_16 : R 0 0 0 := ⟨by decide, by decide⟩
    have f_17 : R 0 0 r2 := rf_eq f_16 c_15
    refine s_X7_greatest ok.1 (fun r5 f_18 => ?_)
    refine s_X10_told r5 ok.1 (fun r7 h6 ko_19 tq => ?_)
    have ok_20 := Ok_tr ok ko_19 (by decide)
    have f_21 : R (-2147483648) 2147483647 r7 := R_full _
    exact hp _ _ ok_20 (by first | exact tq | exact tq (by decide) | (rw [mI_wI, if_pos ⟨rfl, rfl⟩]; decide)) 
  · have f_22 : R 0 0 0 := ⟨by decide, by decide⟩
    have f_23 : R 1 1 r2 := rf_ne_lo f_14 c_15 (by decide) 1 rfl
    refine s_X10_refused 1 ok.1 (fun r9 h8 ko_24 f_26 tq => ?_)
    have ok_25 := Ok_tr ok ko_24 (by decide)
    exact hp _ _ ok_25 (by first | exact tq | exact tq (by decide) | (rw [mI_wI, if_pos ⟨rfl, rfl⟩]; decide)) 
set_option maxRecDepth 100000 in
set_option maxHeartbeats 4000000 in
theorem s_X10_denied {g : gT} {h : mh_T} {P : Int32 → mh_T → Prop} (l1 : Int32) (hG : GI h)  (hp : ∀ (r : Int32) h', Ok [0] h h' → R 0 1 r → (¬ l1 = 4 → ¬ mI h' 0 11 = 4) → P r h') : MCi g yX10_denied uX10_denied [.ref 0, .int l1] h P := by
  have ok : Ok [0] h h := Ok_rf hG
  refine e_X10_denied l1  ?_
  have ok_3 := Ok_w ok (k := 0) (j := 11) (v := l1) (lo := (-2147483648)) (hi := 2147483647) (by decide) (R_full l1) (by decide) (by decide)
  have f_4 : R 0 0 0 := ⟨by decide, by decide⟩
  exact hp _ _ ok_3 (R_w f_4 (by decide)) (fun z => by rw [mI_wI, if_pos ⟨rfl, rfl⟩]; exact z)
set_option maxRecDepth 100000 in
set_option maxHeartbeats 4000000 in
theorem s_X10_done {g : gT} {h : mh_T} {P : Int32 → mh_T → Prop}  (hG : GI h)  (hp : ∀ (r : Int32) h', Ok [0] h h' → R 0 1 r → ¬ mI h' 0 11 = 4 → P r h') : MCi g yX10_done uX10_done [.ref 0] h P := by
  have ok : Ok [0] h h := Ok_rf hG
  refine e_X10_done   ?_
  have f_4 : R 0 0 0 := ⟨by decide, by decide⟩
  have ok_5 := Ok_w ok (k := 0) (j := 11) (v := 0) (lo := (-2147483648)) (hi := 2147483647) (by decide) (R_w f_4 (by decide)) (by decide) (by decide)
  have f_6 : R 1 1 1 := ⟨by decide, by decide⟩
  exact hp _ _ ok_5 (R_w f_6 (by decide)) (by first | exact tq | exact tq (by decide) | (rw [mI_wI, if_pos ⟨rfl, rfl⟩]; decide))
set_option maxRecDepth 100000 in
set_option maxHeartbeats 4000000 in
theorem s_X10_stake {g : gT} {h : mh_T} {P : Int32 → mh_T → Prop} (l1 : Int32) (l2 : Int32) (l3 : Int32) (hG : GI h)  (hp : ∀ (r : Int32) h', Ok [0, 27] h h' → R 0 1 r → ¬ mI h' 0 11 = 4 → P r h') : MCi g yX10_stake uX10_stake [.ref 0, .int l1, .int l2, .int l3] h P := by
  have ok : Ok [0, 27] h h := Ok_rf hG
  refine e_X10_stake l1 l2 l3  ?_
  refine s_X8_hasOutcome l1 l2 ok.1 (fun r2 f_39 im_38 => ?_)
  refine ⟨fun c_40 => ?_, fun c_40 => ?_⟩
  · have f_41 : R 0 0 0 := ⟨by decide, by decide⟩
    have f_42 := (im_38 c_40).1
    have f_43 := (im_38 c_40).2
    have f_44 : R 1 1 r2 := rf_ne_lo f_39 c_40 (by decide) 1 rfl
    refine ⟨fun c_45 => ?_, fun c_45 => ?_⟩
    · have f_46 : R 0 0 0 := ⟨by decide, by decide⟩
      have f_47 : R (-2147483648) (-1) l3 := rf_lt_l (R_full l3) f_46 c_45 (-1) (by decide)
      refine s_X10_denied 2 ok.1 (fun r6 h5 ko_48 f_50 tq => ?_)
      have ok_49 := Ok_tr ok ko_48 (by decide)
      exact ⟨R_z (R_w f_50 (by decide)), hp _ _ ok_49 (R_w f_50 (by decide)) (by first | exact tq | exact tq (by decide) | (rw [mI_wI, if_pos ⟨rfl, rfl⟩]; decide))⟩
    · have f_51 : R 0 0 0 := ⟨by decide, by decide⟩
      have f_52 : R 0 2147483647 l3 := rf_le_r f_51 (R_full l3) (nlt c_45) 0 (by decide)
      refine ⟨fun c_53 => ?_, fun c_53 => ?_⟩
      · have f_54 : R 99 99 99 := ⟨by decide, by decide⟩
        have f_55 : R 0 99 l3 := rf_le_l f_52 f_54 c_53 99 (by decide)
        have f_58 : R 4 4 4 := ⟨by decide, by decide⟩
        have f_57 : R 0 28 (4 * l1) := R_mul f_58 f_42 0 28 (by decide)
        have f_56 : R 0 31 ((4 * l1) + l2) := R_add f_57 f_43 0 31 (by decide)
        refine ⟨vin f_56 (by decide), ?_⟩
        have f_59 : R 0 0 0 := ⟨by decide, by decide⟩
        have f_60 : R 99 99 99 := ⟨by decide, by decide⟩
        have ok_61 := Ok_w ok (k := 27) (j := ((4 * l1) + l2).toNatClampNeg) (v := l3) (lo := (-2147483648)) (hi := 2147483647) (rgc_27 _) (R_w f_55 (by decide)) (by decide) (nt_k (by decide))
        refine s_X10_done ok_61.1 (fun r10 h9 ko_62 f_64 tq => ?_)
        have ok_63 := Ok_tr ok_61 ko_62 (by decide)
        exact ⟨R_z (R_w f_64 (by decide)), hp _ _ ok_63 (R_w f_64 (by decide)) (by first | exact tq | exact tq (by decide) | (rw [mI_wI, if_pos ⟨rfl, rfl⟩]; decide))⟩
      · have f_65 : R 99 99 99 := ⟨by decide, by decide⟩
        have f_66 : R 100 2147483647 l3 := rf_lt_r f_65 f_52 (nle c_53) 100 (by decide)
        refine s_X10_denied 2 ok.1 (fun r12 h11 ko_67 f_69 tq => ?_)
        have ok_68 := Ok_tr ok ko_67 (by decide)
        exact ⟨R_z (R_w f_69 (by decide)), hp _ _ ok_68 (R_w f_69 (by decide)) (by first | exact tq | exact tq (by decide) | (rw [mI_wI, if_pos ⟨rfl, rfl⟩]; decide))⟩
  · have f_70 : R 0 0 0 := ⟨by decide, by decide⟩
    have f_71 : R 0 0 r2 := rf_eq f_70 c_40
    refine s_X10_denied 1 ok.1 (fun r14 h13 ko_72 f_74 tq => ?_)
    have ok_73 := Ok_tr ok ko_72 (by decide)
    exact ⟨R_z (R_w f_74 (by decide)), hp _ _ ok_73 (R_w f_74 (by decide)) (by first | exact tq | exact tq (by decide) | (rw [mI_wI, if_pos ⟨rfl, rfl⟩]; decide))⟩
set_option maxRecDepth 100000 in
set_option maxHeartbeats 4000000 in
theorem s_X10_wins {g : gT} {h : mh_T} {P : Int32 → mh_T → Prop}  (hG : GI h)  (hp : ∀ (r : Int32) h', Ok [0] h h' → ¬ mI h' 0 11 = 4 → P r h') : MCi g yX10_wins uX10_wins [.ref 0] h P := by
  have ok : Ok [0] h h := Ok_rf hG
  refine e_X10_wins   ?_
  refine s_X10_noBook ok.1 (fun r2 f_13 => ?_)
  refine ⟨fun c_14 => ?_, fun c_14 => ?_⟩
  · have f_15 : R 0 0 0 := ⟨by decide, by decide⟩
    have f_16 : R 0 0 r2 := rf_eq f_15 c_14
    refine s_X8_winnings ok.1 (fun r5 => ?_)
    refine s_X10_told r5 ok.1 (fun r7 h6 ko_17 tq => ?_)
    have ok_18 := Ok_tr ok ko_17 (by decide)
    have f_19 : R (-2147483648) 2147483647 r7 := R_full _
    exact hp _ _ ok_18 (by first | exact tq | exact tq (by decide) | (rw [mI_wI, if_pos ⟨rfl, rfl⟩]; decide)) 
  · have f_20 : R 0 0 0 := ⟨by decide, by decide⟩
    have f_21 : R 1 1 r2 := rf_ne_lo f_13 c_14 (by decide) 1 rfl
    refine s_X10_refused 1 ok.1 (fun r9 h8 ko_22 f_24 tq => ?_)
    have ok_23 := Ok_tr ok ko_22 (by decide)
    exact hp _ _ ok_23 (by first | exact tq | exact tq (by decide) | (rw [mI_wI, if_pos ⟨rfl, rfl⟩]; decide)) 
set_option maxRecDepth 100000 in
set_option maxHeartbeats 4000000 in
theorem s_X10_worst {g : gT} {h : mh_T} {P : Int32 → mh_T → Prop}  (hG : GI h)  (hp : ∀ (r : Int32) h', Ok [0] h h' → ¬ mI h' 0 11 = 4 → P r h') : MCi g yX10_worst uX10_worst [.ref 0] h P := by
  have ok : Ok [0] h h := Ok_rf hG
  refine e_X10_worst   ?_
  refine s_X10_noBook ok.1 (fun r2 f_14 => ?_)
  refine ⟨fun c_15 => ?_, fun c_15 => ?_⟩
  · have f_16 : R 0 0 0 := ⟨by decide, by decide⟩
    have f_17 : R 0 0 r2 := rf_eq f_16 c_15
    refine s_X8_leastPaid ok.1 (fun r5 f_18 => ?_)
    refine s_X8_pay r5 ok.1 (fun r7 => ?_)
    refine s_X10_told r7 ok.1 (fun r9 h8 ko_19 tq => ?_)
    have ok_20 := Ok_tr ok ko_19 (by decide)
    have f_21 : R (-2147483648) 2147483647 r9 := R_full _
    exact hp _ _ ok_20 (by first | exact tq | exact tq (by decide) | (rw [mI_wI, if_pos ⟨rfl, rfl⟩]; decide)) 
  · have f_22 : R 0 0 0 := ⟨by decide, by decide⟩
    have f_23 : R 1 1 r2 := rf_ne_lo f_14 c_15 (by decide) 1 rfl
    refine s_X10_refused 1 ok.1 (fun r11 h10 ko_24 f_26 tq => ?_)
    have ok_25 := Ok_tr ok ko_24 (by decide)
    exact hp _ _ ok_25 (by first | exact tq | exact tq (by decide) | (rw [mI_wI, if_pos ⟨rfl, rfl⟩]; decide)) 
set_option maxRecDepth 100000 in
set_option maxHeartbeats 4000000 in
theorem s_X10_worstAt {g : gT} {h : mh_T} {P : Int32 → mh_T → Prop}  (hG : GI h)  (hp : ∀ (r : Int32) h', Ok [0] h h' → ¬ mI h' 0 11 = 4 → P r h') : MCi g yX10_worstAt uX10_worstAt [.ref 0] h P := by
  have ok : Ok [0] h h := Ok_rf hG
  refine e_X10_worstAt   ?_
  refine s_X10_noBook ok.1 (fun r2 f_14 => ?_)
  refine ⟨fun c_15 => ?_, fun c_15 => ?_⟩
  · have f_16 : R 0 0 0 := ⟨by decide, by decide⟩
    have f_17 : R 0 0 r2 := rf_eq f_16 c_15
    refine s_X8_leastPaid ok.1 (fun r5 f_18 => ?_)
    refine s_X10_told r5 ok.1 (fun r7 h6 ko_19 tq => ?_)
    have ok_20 := Ok_tr ok ko_19 (by decide)
    have f_21 : R (-2147483648) 2147483647 r7 := R_full _
    exact hp _ _ ok_20 (by first | exact tq | exact tq (by decide) | (rw [mI_wI, if_pos ⟨rfl, rfl⟩]; decide)) 
  · have f_22 : R 0 0 0 := ⟨by decide, by decide⟩
    have f_23 : R 1 1 r2 := rf_ne_lo f_14 c_15 (by decide) 1 rfl
    refine s_X10_refused 1 ok.1 (fun r9 h8 ko_24 f_26 tq => ?_)
    have ok_25 := Ok_tr ok ko_24 (by decide)
    exact hp _ _ ok_25 (by first | exact tq | exact tq (by decide) | (rw [mI_wI, if_pos ⟨rfl, rfl⟩]; decide)) 
set_option maxRecDepth 100000 in
set_option maxHeartbeats 4000000 in
theorem s_X10_bars {g : gT} {h : mh_T} {P : Int32 → mh_T → Prop}  (hG : GI h)  (hp : ∀ (r : Int32) h', Ok [0] h h' → ¬ mI h' 0 11 = 4 → P r h') : MCi g yX10_bars uX10_bars [.ref 0] h P := by
  have ok : Ok [0] h h := Ok_rf hG
  refine e_X10_bars   ?_
  refine s_X10_noBook ok.1 (fun r2 f_28 => ?_)
  refine ⟨fun c_29 => ?_, fun c_29 => ?_⟩
  · have f_30 : R 0 0 0 := ⟨by decide, by decide⟩
    have f_31 : R 0 0 r2 := rf_eq f_30 c_29
    refine s_X8_winnings ok.1 (fun r5 => ?_)
    refine s_X8_leastPaid ok.1 (fun r7 f_32 => ?_)
    refine s_X8_pay r7 ok.1 (fun r9 => ?_)
    refine ⟨fun c_33 => ?_, fun c_33 => ?_⟩
    · have f_34 : R (-2147483648) 2147483647 r5 := R_full _
      have f_36 : R (-2147483648) 2147483647 r9 := R_full _
      have f_37 : R 0 60 (mI h 3 0) := GI_rd ok.1 3 _ (by decide)
      have f_35 : R (-2147483648) 2147483647 (r9 * (mI h 3 0)) := R_full _
      refine s_X10_told 0 ok.1 (fun r12 h11 ko_38 tq => ?_)
      have ok_39 := Ok_tr ok ko_38 (by decide)
      have f_40 : R (-2147483648) 2147483647 r12 := R_full _
      exact hp _ _ ok_39 (by first | exact tq | exact tq (by decide) | (rw [mI_wI, if_pos ⟨rfl, rfl⟩]; decide)) 
    · have f_41 : R (-2147483648) 2147483647 r5 := R_full _
      have f_43 : R (-2147483648) 2147483647 r9 := R_full _
      have f_44 : R 0 60 (mI h 3 0) := GI_rd ok.1 3 _ (by decide)
      have f_42 : R (-2147483648) 2147483647 (r9 * (mI h 3 0)) := R_full _
      have f_45 : R (-2147483648) 2147483646 r5 := rf_lt_l f_41 f_42 (nle c_33) 2147483646 (by decide)
      have f_46 : R (-2147483647) 2147483647 (r9 * (mI h 3 0)) := rf_lt_r f_41 f_42 (nle c_33) (-2147483647) (by decide)
      refine s_X10_told 1 ok.1 (fun r14 h13 ko_47 tq => ?_)
      have ok_48 := Ok_tr ok ko_47 (by decide)
      have f_49 : R (-2147483648) 2147483647 r14 := R_full _
      exact hp _ _ ok_48 (by first | exact tq | exact tq (by decide) | (rw [mI_wI, if_pos ⟨rfl, rfl⟩]; decide)) 
  · have f_50 : R 0 0 0 := ⟨by decide, by decide⟩
    have f_51 : R 1 1 r2 := rf_ne_lo f_28 c_29 (by decide) 1 rfl
    refine s_X10_refused 1 ok.1 (fun r16 h15 ko_52 f_54 tq => ?_)
    have ok_53 := Ok_tr ok ko_52 (by decide)
    exact hp _ _ ok_53 (by first | exact tq | exact tq (by decide) | (rw [mI_wI, if_pos ⟨rfl, rfl⟩]; decide)) 
set_option maxRecDepth 100000 in
set_option maxHeartbeats 4000000 in
theorem s_X10_fair {g : gT} {h : mh_T} {P : Int32 → mh_T → Prop} (l1 : Int32) (hG : GI h)  (hp : ∀ (r : Int32) h', Ok [0, 5] h h' → ¬ mI h' 0 11 = 4 → P r h') : MCi g yX10_fair uX10_fair [.ref 0, .int l1] h P := by
  have ok : Ok [0, 5] h h := Ok_rf hG
  refine e_X10_fair l1  ?_
  refine s_X10_noBook ok.1 (fun r2 f_39 => ?_)
  refine ⟨fun c_40 => ?_, fun c_40 => ?_⟩
  · have f_41 : R 0 0 0 := ⟨by decide, by decide⟩
    have f_42 : R 0 0 r2 := rf_eq f_41 c_40
    refine s_X8_winnings ok.1 (fun r5 => ?_)
    refine s_X8_leastPaid ok.1 (fun r7 f_43 => ?_)
    refine s_X8_pay r7 ok.1 (fun r9 => ?_)
    intro x10 ex10
    have f_45 : R (-2147483648) 2147483647 r9 := R_full _
    have f_46 : R 0 60 (mI h 3 0) := GI_rd ok.1 3 _ (by decide)
    have f_44 : R (-2147483648) 2147483647 (r9 * (mI h 3 0)) := R_full _
    have f_47 : R (-2147483648) 2147483647 x10 := rf_eq f_44 ex10
    refine ⟨fun c_48 => ?_, fun c_48 => ?_⟩
    · have f_49 : R 0 0 0 := ⟨by decide, by decide⟩
      have f_50 : R 0 0 x10 := rf_eq f_49 c_48
      refine s_X2_set 1 1 ok.1 (fun h12 ko_51 => ?_)
      have ok_52 := Ok_tr ok ko_51 (by decide)
      refine s_X2_part l1 ok_52.1 (fun r14 => ?_)
      refine s_X10_told r14 ok_52.1 (fun r16 h15 ko_53 tq => ?_)
      have ok_54 := Ok_tr ok_52 ko_53 (by decide)
      have f_55 : R (-2147483648) 2147483647 r16 := R_full _
      exact hp _ _ ok_54 (by first | exact tq | exact tq (by decide) | (rw [mI_wI, if_pos ⟨rfl, rfl⟩]; decide)) 
    · have f_56 : R 0 0 0 := ⟨by decide, by decide⟩
      refine ⟨fun c_57 => ?_, fun c_57 => ?_⟩
      · have f_58 : R (-2147483648) 2147483647 r5 := R_full _
        refine s_X2_set (Int32.toInt64 r5) (Int32.toInt64 x10) ok.1 (fun h18 ko_59 => ?_)
        have ok_60 := Ok_tr ok ko_59 (by decide)
        refine s_X2_part l1 ok_60.1 (fun r20 => ?_)
        refine s_X10_told r20 ok_60.1 (fun r22 h21 ko_61 tq => ?_)
        have ok_62 := Ok_tr ok_60 ko_61 (by decide)
        have f_63 : R (-2147483648) 2147483647 r22 := R_full _
        exact hp _ _ ok_62 (by first | exact tq | exact tq (by decide) | (rw [mI_wI, if_pos ⟨rfl, rfl⟩]; decide)) 
      · have f_64 : R (-2147483648) 2147483647 r5 := R_full _
        have f_65 : R (-2147483648) 2147483646 x10 := rf_lt_l f_47 f_64 (nle c_57) 2147483646 (by decide)
        have f_66 : R (-2147483647) 2147483647 r5 := rf_lt_r f_47 f_64 (nle c_57) (-2147483647) (by decide)
        refine s_X2_set 1 1 ok.1 (fun h23 ko_67 => ?_)
        have ok_68 := Ok_tr ok ko_67 (by decide)
        refine s_X2_part l1 ok_68.1 (fun r25 => ?_)
        refine s_X10_told r25 ok_68.1 (fun r27 h26 ko_69 tq => ?_)
        have ok_70 := Ok_tr ok_68 ko_69 (by decide)
        have f_71 : R (-2147483648) 2147483647 r27 := R_full _
        exact hp _ _ ok_70 (by first | exact tq | exact tq (by decide) | (rw [mI_wI, if_pos ⟨rfl, rfl⟩]; decide)) 
  · have f_72 : R 0 0 0 := ⟨by decide, by decide⟩
    have f_73 : R 1 1 r2 := rf_ne_lo f_39 c_40 (by decide) 1 rfl
    refine s_X10_refused 1 ok.1 (fun r29 h28 ko_74 f_76 tq => ?_)
    have ok_75 := Ok_tr ok ko_74 (by decide)
    exact hp _ _ ok_75 (by first | exact tq | exact tq (by decide) | (rw [mI_wI, if_pos ⟨rfl, rfl⟩]; decide)) 
set_option maxRecDepth 100000 in
set_option maxHeartbeats 4000000 in
theorem s_X10_ways {g : gT} {h : mh_T} {P : Int32 → mh_T → Prop}  (hG : GI h)  (hp : ∀ (r : Int32) h', Ok [0] h h' → ¬ mI h' 0 11 = 4 → P r h') : MCi g yX10_ways uX10_ways [.ref 0] h P := by
  have ok : Ok [0] h h := Ok_rf hG
  refine e_X10_ways   ?_
  refine s_X10_noBook ok.1 (fun r2 f_13 => ?_)
  refine ⟨fun c_14 => ?_, fun c_14 => ?_⟩
  · have f_15 : R 0 0 0 := ⟨by decide, by decide⟩
    have f_16 : R 0 0 r2 := rf_eq f_15 c_14
    refine s_X10_told (mI h 7 2) ok.1 (fun r5 h4 ko_17 tq => ?_)
    have ok_18 := Ok_tr ok ko_17 (by decide)
    have f_19 : R (-2147483648) 2147483647 r5 := R_full _
    exact hp _ _ ok_18 (by first | exact tq | exact tq (by decide) | (rw [mI_wI, if_pos ⟨rfl, rfl⟩]; decide)) 
  · have f_20 : R 0 0 0 := ⟨by decide, by decide⟩
    have f_21 : R 1 1 r2 := rf_ne_lo f_13 c_14 (by decide) 1 rfl
    refine s_X10_refused 1 ok.1 (fun r7 h6 ko_22 f_24 tq => ?_)
    have ok_23 := Ok_tr ok ko_22 (by decide)
    exact hp _ _ ok_23 (by first | exact tq | exact tq (by decide) | (rw [mI_wI, if_pos ⟨rfl, rfl⟩]; decide)) 
set_option maxRecDepth 100000 in
set_option maxHeartbeats 4000000 in
theorem s_X10_forced {g : gT} {h : mh_T} {P : Int32 → mh_T → Prop} (l1 : Int32) (hG : GI h)  (hp : ∀ (r : Int32) h', Ok [0] h h' → ¬ mI h' 0 11 = 4 → P r h') : MCi g yX10_forced uX10_forced [.ref 0, .int l1] h P := by
  have ok : Ok [0] h h := Ok_rf hG
  refine e_X10_forced l1  ?_
  refine ⟨fun c_30 => ?_, fun c_30 => ?_⟩
  · have f_31 : R 0 0 0 := ⟨by decide, by decide⟩
    have f_32 : R (-2147483648) (-1) l1 := rf_lt_l (R_full l1) f_31 c_30 (-1) (by decide)
    refine s_X10_refused 1 ok.1 (fun r3 h2 ko_33 f_35 tq => ?_)
    have ok_34 := Ok_tr ok ko_33 (by decide)
    exact hp _ _ ok_34 (by first | exact tq | exact tq (by decide) | (rw [mI_wI, if_pos ⟨rfl, rfl⟩]; decide)) 
  · have f_36 : R 0 0 0 := ⟨by decide, by decide⟩
    have f_37 : R 0 2147483647 l1 := rf_le_r f_36 (R_full l1) (nlt c_30) 0 (by decide)
    refine ⟨fun c_38 => ?_, fun c_38 => ?_⟩
    · have f_39 : R 0 9 (mI h 7 0) := GI_rd ok.1 7 _ (by decide)
      have f_40 : R 0 8 l1 := rf_lt_l f_37 f_39 c_38 8 (by decide)
      have f_41 : R 1 9 (mI h 7 0) := rf_lt_r f_37 f_39 c_38 1 (by decide)
      refine ⟨fun c_42 => ?_, fun c_42 => ?_⟩
      · have f_43 : R (-2147483648) 2147483647 (mI h 7 2) := R_full _
        have f_44 : R 0 0 0 := ⟨by decide, by decide⟩
        refine s_X5_valueOf l1 ok.1 (fun r7 f_45 => ?_)
        refine s_X10_told r7 ok.1 (fun r9 h8 ko_46 tq => ?_)
        have ok_47 := Ok_tr ok ko_46 (by decide)
        have f_48 : R (-2147483648) 2147483647 r9 := R_full _
        exact hp _ _ ok_47 (by first | exact tq | exact tq (by decide) | (rw [mI_wI, if_pos ⟨rfl, rfl⟩]; decide)) 
      · have f_49 : R (-2147483648) 2147483647 (mI h 7 2) := R_full _
        have f_50 : R 0 0 0 := ⟨by decide, by decide⟩
        have f_51 : R 0 0 (mI h 7 2) := rf_eq f_50 c_42
        refine s_X10_refused 6 ok.1 (fun r11 h10 ko_52 f_54 tq => ?_)
        have ok_53 := Ok_tr ok ko_52 (by decide)
        exact hp _ _ ok_53 (by first | exact tq | exact tq (by decide) | (rw [mI_wI, if_pos ⟨rfl, rfl⟩]; decide)) 
    · have f_55 : R 0 9 (mI h 7 0) := GI_rd ok.1 7 _ (by decide)
      refine s_X10_refused 1 ok.1 (fun r13 h12 ko_56 f_58 tq => ?_)
      have ok_57 := Ok_tr ok ko_56 (by decide)
      exact hp _ _ ok_57 (by first | exact tq | exact tq (by decide) | (rw [mI_wI, if_pos ⟨rfl, rfl⟩]; decide)) 
set_option maxRecDepth 100000 in
set_option maxHeartbeats 4000000 in
theorem s_X10_core {g : gT} {h : mh_T} {P : Int32 → mh_T → Prop}  (hG : GI h)  (hp : ∀ (r : Int32) h', Ok [0] h h' → ¬ mI h' 0 11 = 4 → P r h') : MCi g yX10_core uX10_core [.ref 0] h P := by
  have ok : Ok [0] h h := Ok_rf hG
  refine e_X10_core   ?_
  refine s_X10_noBook ok.1 (fun r2 f_14 => ?_)
  refine ⟨fun c_15 => ?_, fun c_15 => ?_⟩
  · have f_16 : R 0 0 0 := ⟨by decide, by decide⟩
    have f_17 : R 0 0 r2 := rf_eq f_16 c_15
    refine s_X5_leastBroken ok.1 (fun r5 f_18 => ?_)
    refine s_X10_told r5 ok.1 (fun r7 h6 ko_19 tq => ?_)
    have ok_20 := Ok_tr ok ko_19 (by decide)
    have f_21 : R (-2147483648) 2147483647 r7 := R_full _
    exact hp _ _ ok_20 (by first | exact tq | exact tq (by decide) | (rw [mI_wI, if_pos ⟨rfl, rfl⟩]; decide)) 
  · have f_22 : R 0 0 0 := ⟨by decide, by decide⟩
    have f_23 : R 1 1 r2 := rf_ne_lo f_14 c_15 (by decide) 1 rfl
    refine s_X10_refused 1 ok.1 (fun r9 h8 ko_24 f_26 tq => ?_)
    have ok_25 := Ok_tr ok ko_24 (by decide)
    exact hp _ _ ok_25 (by first | exact tq | exact tq (by decide) | (rw [mI_wI, if_pos ⟨rfl, rfl⟩]; decide)) 
set_option maxRecDepth 100000 in
set_option maxHeartbeats 4000000 in
theorem s_X10_can {g : gT} {h : mh_T} {P : Int32 → mh_T → Prop} (l1 : Int32) (hG : GI h)  (hp : ∀ (r : Int32) h', Ok [0] h h' → ¬ mI h' 0 11 = 4 → P r h') : MCi g yX10_can uX10_can [.ref 0, .int l1] h P := by
  have ok : Ok [0] h h := Ok_rf hG
  refine e_X10_can l1  ?_
  refine s_X10_noBook ok.1 (fun r2 f_40 => ?_)
  refine ⟨fun c_41 => ?_, fun c_41 => ?_⟩
  · have f_42 : R 0 0 0 := ⟨by decide, by decide⟩
    have f_43 : R 0 0 r2 := rf_eq f_42 c_41
    refine ⟨fun c_44 => ?_, fun c_44 => ?_⟩
    · have f_45 : R 0 0 0 := ⟨by decide, by decide⟩
      have f_46 : R (-2147483648) (-1) l1 := rf_lt_l (R_full l1) f_45 c_44 (-1) (by decide)
      refine s_X10_refused 2 ok.1 (fun r6 h5 ko_47 f_49 tq => ?_)
      have ok_48 := Ok_tr ok ko_47 (by decide)
      exact hp _ _ ok_48 (by first | exact tq | exact tq (by decide) | (rw [mI_wI, if_pos ⟨rfl, rfl⟩]; decide)) 
    · have f_50 : R 0 0 0 := ⟨by decide, by decide⟩
      have f_51 : R 0 2147483647 l1 := rf_le_r f_50 (R_full l1) (nlt c_44) 0 (by decide)
      refine ⟨fun c_52 => ?_, fun c_52 => ?_⟩
      · have f_54 : R 0 8 (mI h 7 1) := GI_rd ok.1 7 _ (by decide)
        have f_53 : R 1 256 (1 <<< ((mI h 7 1) &&& 31)) := R_shl f_54 1 256 0 8 (by decide)
        have f_55 : R 0 255 l1 := rf_lt_l f_51 f_53 c_52 255 (by decide)
        refine s_X5_holds l1 ok.1 (fun r9 f_56 => ?_)
        refine ⟨fun c_57 => ?_, fun c_57 => ?_⟩
        · have f_58 : R 0 0 0 := ⟨by decide, by decide⟩
          have f_59 : R 0 0 r9 := rf_eq f_58 c_57
          refine s_X10_told 0 ok.1 (fun r12 h11 ko_60 tq => ?_)
          have ok_61 := Ok_tr ok ko_60 (by decide)
          have f_62 : R (-2147483648) 2147483647 r12 := R_full _
          exact hp _ _ ok_61 (by first | exact tq | exact tq (by decide) | (rw [mI_wI, if_pos ⟨rfl, rfl⟩]; decide)) 
        · have f_63 : R 0 0 0 := ⟨by decide, by decide⟩
          have f_64 : R 1 1 r9 := rf_ne_lo f_56 c_57 (by decide) 1 rfl
          refine s_X10_told 1 ok.1 (fun r14 h13 ko_65 tq => ?_)
          have ok_66 := Ok_tr ok ko_65 (by decide)
          have f_67 : R (-2147483648) 2147483647 r14 := R_full _
          exact hp _ _ ok_66 (by first | exact tq | exact tq (by decide) | (rw [mI_wI, if_pos ⟨rfl, rfl⟩]; decide)) 
      · have f_69 : R 0 8 (mI h 7 1) := GI_rd ok.1 7 _ (by decide)
        have f_68 : R 1 256 (1 <<< ((mI h 7 1) &&& 31)) := R_shl f_69 1 256 0 8 (by decide)
        have f_70 : R 1 2147483647 l1 := rf_le_r f_68 f_51 (nlt c_52) 1 (by decide)
        refine s_X10_refused 2 ok.1 (fun r16 h15 ko_71 f_73 tq => ?_)
        have ok_72 := Ok_tr ok ko_71 (by decide)
        exact hp _ _ ok_72 (by first | exact tq | exact tq (by decide) | (rw [mI_wI, if_pos ⟨rfl, rfl⟩]; decide)) 
  · have f_74 : R 0 0 0 := ⟨by decide, by decide⟩
    have f_75 : R 1 1 r2 := rf_ne_lo f_40 c_41 (by decide) 1 rfl
    refine s_X10_refused 1 ok.1 (fun r18 h17 ko_76 f_78 tq => ?_)
    have ok_77 := Ok_tr ok ko_76 (by decide)
    exact hp _ _ ok_77 (by first | exact tq | exact tq (by decide) | (rw [mI_wI, if_pos ⟨rfl, rfl⟩]; decide)) 
set_option maxRecDepth 100000 in
set_option maxHeartbeats 4000000 in
theorem s_X10_game {g : gT} {h : mh_T} {P : Int32 → mh_T → Prop}  (hG : GI h)  (hp : ∀ (r : Int32) h', Ok [0] h h' → ¬ mI h' 0 11 = 4 → P r h') : MCi g yX10_game uX10_game [.ref 0] h P := by
  have ok : Ok [0] h h := Ok_rf hG
  refine e_X10_game   ?_
  refine s_X10_noBook ok.1 (fun r2 f_14 => ?_)
  refine ⟨fun c_15 => ?_, fun c_15 => ?_⟩
  · have f_16 : R 0 0 0 := ⟨by decide, by decide⟩
    have f_17 : R 0 0 r2 := rf_eq f_16 c_15
    refine s_X5_mostHeld ok.1 (fun r5 f_18 => ?_)
    refine s_X10_told r5 ok.1 (fun r7 h6 ko_19 tq => ?_)
    have ok_20 := Ok_tr ok ko_19 (by decide)
    have f_21 : R (-2147483648) 2147483647 r7 := R_full _
    exact hp _ _ ok_20 (by first | exact tq | exact tq (by decide) | (rw [mI_wI, if_pos ⟨rfl, rfl⟩]; decide)) 
  · have f_22 : R 0 0 0 := ⟨by decide, by decide⟩
    have f_23 : R 1 1 r2 := rf_ne_lo f_14 c_15 (by decide) 1 rfl
    refine s_X10_refused 1 ok.1 (fun r9 h8 ko_24 f_26 tq => ?_)
    have ok_25 := Ok_tr ok ko_24 (by decide)
    exact hp _ _ ok_25 (by first | exact tq | exact tq (by decide) | (rw [mI_wI, if_pos ⟨rfl, rfl⟩]; decide)) 
set_option maxRecDepth 100000 in
set_option maxHeartbeats 4000000 in
theorem s_X10_square {g : gT} {h : mh_T} {P : Int32 → mh_T → Prop} (l1 : Int32) (l2 : Int32) (hG : GI h)  (hp : ∀ (r : Int32) h', Ok [0] h h' → ¬ mI h' 0 11 = 4 → P r h') : MCi g yX10_square uX10_square [.ref 0, .int l1, .int l2] h P := by
  have ok : Ok [0] h h := Ok_rf hG
  refine e_X10_square l1 l2  ?_
  refine s_X3_hasRay l1 ok.1 (fun r2 f_31 im_30 => ?_)
  refine ⟨fun c_32 => ?_, fun c_32 => ?_⟩
  · have f_33 : R 0 0 0 := ⟨by decide, by decide⟩
    have f_34 : R 0 0 r2 := rf_eq f_33 c_32
    refine s_X10_refused 1 ok.1 (fun r5 h4 ko_35 f_37 tq => ?_)
    have ok_36 := Ok_tr ok ko_35 (by decide)
    exact hp _ _ ok_36 (by first | exact tq | exact tq (by decide) | (rw [mI_wI, if_pos ⟨rfl, rfl⟩]; decide)) 
  · have f_38 : R 0 0 0 := ⟨by decide, by decide⟩
    have f_39 := (im_30 c_32)
    have f_40 : R 1 1 r2 := rf_ne_lo f_31 c_32 (by decide) 1 rfl
    refine s_X3_hasRay l2 ok.1 (fun r7 f_42 im_41 => ?_)
    refine ⟨fun c_43 => ?_, fun c_43 => ?_⟩
    · have f_44 : R 0 0 0 := ⟨by decide, by decide⟩
      have f_45 : R 0 0 r7 := rf_eq f_44 c_43
      refine s_X10_refused 1 ok.1 (fun r10 h9 ko_46 f_48 tq => ?_)
      have ok_47 := Ok_tr ok ko_46 (by decide)
      exact hp _ _ ok_47 (by first | exact tq | exact tq (by decide) | (rw [mI_wI, if_pos ⟨rfl, rfl⟩]; decide)) 
    · have f_49 : R 0 0 0 := ⟨by decide, by decide⟩
      have f_50 := (im_41 c_43)
      have f_51 : R 1 1 r7 := rf_ne_lo f_42 c_43 (by decide) 1 rfl
      refine ⟨fun c_52 => ?_, fun c_52 => ?_⟩
      · refine ⟨vin f_39 (by decide), ?_⟩
        refine s_X10_told (((mI h 32 l1.toNatClampNeg) >>> (l2 &&& 31)) &&& 1) ok.1 (fun r14 h13 ko_53 tq => ?_)
        have ok_54 := Ok_tr ok ko_53 (by decide)
        have f_55 : R (-2147483648) 2147483647 r14 := R_full _
        exact hp _ _ ok_54 (by first | exact tq | exact tq (by decide) | (rw [mI_wI, if_pos ⟨rfl, rfl⟩]; decide)) 
      · refine s_X10_refused 1 ok.1 (fun r16 h15 ko_56 f_58 tq => ?_)
        have ok_57 := Ok_tr ok ko_56 (by decide)
        exact hp _ _ ok_57 (by first | exact tq | exact tq (by decide) | (rw [mI_wI, if_pos ⟨rfl, rfl⟩]; decide)) 
set_option maxRecDepth 100000 in
set_option maxHeartbeats 4000000 in
theorem s_X10_corners {g : gT} {h : mh_T} {P : Int32 → mh_T → Prop}  (hG : GI h)  (hp : ∀ (r : Int32) h', Ok [0] h h' → ¬ mI h' 0 11 = 4 → P r h') : MCi g yX10_corners uX10_corners [.ref 0] h P := by
  have ok : Ok [0] h h := Ok_rf hG
  refine e_X10_corners   ?_
  refine s_X10_noBook ok.1 (fun r2 f_13 => ?_)
  refine ⟨fun c_14 => ?_, fun c_14 => ?_⟩
  · have f_15 : R 0 0 0 := ⟨by decide, by decide⟩
    have f_16 : R 0 0 r2 := rf_eq f_15 c_14
    refine s_X10_told (mI h 8 1) ok.1 (fun r5 h4 ko_17 tq => ?_)
    have ok_18 := Ok_tr ok ko_17 (by decide)
    have f_19 : R (-2147483648) 2147483647 r5 := R_full _
    exact hp _ _ ok_18 (by first | exact tq | exact tq (by decide) | (rw [mI_wI, if_pos ⟨rfl, rfl⟩]; decide)) 
  · have f_20 : R 0 0 0 := ⟨by decide, by decide⟩
    have f_21 : R 1 1 r2 := rf_ne_lo f_13 c_14 (by decide) 1 rfl
    refine s_X10_refused 1 ok.1 (fun r7 h6 ko_22 f_24 tq => ?_)
    have ok_23 := Ok_tr ok ko_22 (by decide)
    exact hp _ _ ok_23 (by first | exact tq | exact tq (by decide) | (rw [mI_wI, if_pos ⟨rfl, rfl⟩]; decide)) 
set_option maxRecDepth 100000 in
set_option maxHeartbeats 4000000 in
theorem s_X10_colours {g : gT} {h : mh_T} {P : Int32 → mh_T → Prop}  (hG : GI h)  (hp : ∀ (r : Int32) h', Ok [0, 8] h h' → ¬ mI h' 0 11 = 4 → P r h') : MCi g yX10_colours uX10_colours [.ref 0] h P := by
  have ok : Ok [0, 8] h h := Ok_rf hG
  refine e_X10_colours   ?_
  refine s_X10_noBook ok.1 (fun r2 f_15 => ?_)
  refine ⟨fun c_16 => ?_, fun c_16 => ?_⟩
  · have f_17 : R 0 0 0 := ⟨by decide, by decide⟩
    have f_18 : R 0 0 r2 := rf_eq f_17 c_16
    refine s_X3_work ok.1 (fun h4 ko_19 => ?_)
    have ok_20 := Ok_tr ok ko_19 (by decide)
    refine s_X10_told (mI h4 8 2) ok_20.1 (fun r6 h5 ko_21 tq => ?_)
    have ok_22 := Ok_tr ok_20 ko_21 (by decide)
    have f_23 : R (-2147483648) 2147483647 r6 := R_full _
    exact hp _ _ ok_22 (by first | exact tq | exact tq (by decide) | (rw [mI_wI, if_pos ⟨rfl, rfl⟩]; decide)) 
  · have f_24 : R 0 0 0 := ⟨by decide, by decide⟩
    have f_25 : R 1 1 r2 := rf_ne_lo f_15 c_16 (by decide) 1 rfl
    refine s_X10_refused 1 ok.1 (fun r8 h7 ko_26 f_28 tq => ?_)
    have ok_27 := Ok_tr ok ko_26 (by decide)
    exact hp _ _ ok_27 (by first | exact tq | exact tq (by decide) | (rw [mI_wI, if_pos ⟨rfl, rfl⟩]; decide)) 
set_option maxRecDepth 100000 in
set_option maxHeartbeats 4000000 in
theorem s_X10_ones {g : gT} {h : mh_T} {P : Int32 → mh_T → Prop}  (hG : GI h)  (hp : ∀ (r : Int32) h', Ok [0, 8] h h' → ¬ mI h' 0 11 = 4 → P r h') : MCi g yX10_ones uX10_ones [.ref 0] h P := by
  have ok : Ok [0, 8] h h := Ok_rf hG
  refine e_X10_ones   ?_
  refine s_X10_noBook ok.1 (fun r2 f_24 => ?_)
  refine ⟨fun c_25 => ?_, fun c_25 => ?_⟩
  · have f_26 : R 0 0 0 := ⟨by decide, by decide⟩
    have f_27 : R 0 0 r2 := rf_eq f_26 c_25
    refine s_X3_work ok.1 (fun h4 ko_28 => ?_)
    have ok_29 := Ok_tr ok ko_28 (by decide)
    refine ⟨fun c_30 => ?_, fun c_30 => ?_⟩
    · have f_31 : R (-2147483648) 2147483647 (mI h4 8 2) := R_full _
      have f_32 : R 0 0 0 := ⟨by decide, by decide⟩
      refine s_X10_told (mI h4 8 3) ok_29.1 (fun r7 h6 ko_33 tq => ?_)
      have ok_34 := Ok_tr ok_29 ko_33 (by decide)
      have f_35 : R (-2147483648) 2147483647 r7 := R_full _
      exact hp _ _ ok_34 (by first | exact tq | exact tq (by decide) | (rw [mI_wI, if_pos ⟨rfl, rfl⟩]; decide)) 
    · have f_36 : R (-2147483648) 2147483647 (mI h4 8 2) := R_full _
      have f_37 : R 0 0 0 := ⟨by decide, by decide⟩
      have f_38 : R 0 0 (mI h4 8 2) := rf_eq f_37 c_30
      refine s_X10_refused 6 ok_29.1 (fun r9 h8 ko_39 f_41 tq => ?_)
      have ok_40 := Ok_tr ok_29 ko_39 (by decide)
      exact hp _ _ ok_40 (by first | exact tq | exact tq (by decide) | (rw [mI_wI, if_pos ⟨rfl, rfl⟩]; decide)) 
  · have f_42 : R 0 0 0 := ⟨by decide, by decide⟩
    have f_43 : R 1 1 r2 := rf_ne_lo f_24 c_25 (by decide) 1 rfl
    refine s_X10_refused 1 ok.1 (fun r11 h10 ko_44 f_46 tq => ?_)
    have ok_45 := Ok_tr ok ko_44 (by decide)
    exact hp _ _ ok_45 (by first | exact tq | exact tq (by decide) | (rw [mI_wI, if_pos ⟨rfl, rfl⟩]; decide)) 
set_option maxRecDepth 100000 in
set_option maxHeartbeats 4000000 in
theorem s_X10_spare {g : gT} {h : mh_T} {P : Int32 → mh_T → Prop}  (hG : GI h)  (hp : ∀ (r : Int32) h', Ok [0, 8] h h' → ¬ mI h' 0 11 = 4 → P r h') : MCi g yX10_spare uX10_spare [.ref 0] h P := by
  have ok : Ok [0, 8] h h := Ok_rf hG
  refine e_X10_spare   ?_
  refine s_X10_noBook ok.1 (fun r2 f_15 => ?_)
  refine ⟨fun c_16 => ?_, fun c_16 => ?_⟩
  · have f_17 : R 0 0 0 := ⟨by decide, by decide⟩
    have f_18 : R 0 0 r2 := rf_eq f_17 c_16
    refine s_X3_work ok.1 (fun h4 ko_19 => ?_)
    have ok_20 := Ok_tr ok ko_19 (by decide)
    refine s_X10_told (mI h4 8 4) ok_20.1 (fun r6 h5 ko_21 tq => ?_)
    have ok_22 := Ok_tr ok_20 ko_21 (by decide)
    have f_23 : R (-2147483648) 2147483647 r6 := R_full _
    exact hp _ _ ok_22 (by first | exact tq | exact tq (by decide) | (rw [mI_wI, if_pos ⟨rfl, rfl⟩]; decide)) 
  · have f_24 : R 0 0 0 := ⟨by decide, by decide⟩
    have f_25 : R 1 1 r2 := rf_ne_lo f_15 c_16 (by decide) 1 rfl
    refine s_X10_refused 1 ok.1 (fun r8 h7 ko_26 f_28 tq => ?_)
    have ok_27 := Ok_tr ok ko_26 (by decide)
    exact hp _ _ ok_27 (by first | exact tq | exact tq (by decide) | (rw [mI_wI, if_pos ⟨rfl, rfl⟩]; decide)) 
set_option maxRecDepth 100000 in
set_option maxHeartbeats 4000000 in
theorem s_X10_critical {g : gT} {h : mh_T} {P : Int32 → mh_T → Prop}  (hG : GI h)  (hp : ∀ (r : Int32) h', Ok [0, 8] h h' → ¬ mI h' 0 11 = 4 → P r h') : MCi g yX10_critical uX10_critical [.ref 0] h P := by
  have ok : Ok [0, 8] h h := Ok_rf hG
  refine e_X10_critical   ?_
  refine s_X10_noBook ok.1 (fun r2 f_24 => ?_)
  refine ⟨fun c_25 => ?_, fun c_25 => ?_⟩
  · have f_26 : R 0 0 0 := ⟨by decide, by decide⟩
    have f_27 : R 0 0 r2 := rf_eq f_26 c_25
    refine s_X3_work ok.1 (fun h4 ko_28 => ?_)
    have ok_29 := Ok_tr ok ko_28 (by decide)
    refine ⟨fun c_30 => ?_, fun c_30 => ?_⟩
    · have f_31 : R (-2147483648) 2147483647 (mI h4 8 2) := R_full _
      have f_32 : R 0 0 0 := ⟨by decide, by decide⟩
      have f_33 : R 0 0 (mI h4 8 2) := rf_eq f_32 c_30
      refine s_X10_told (mI h4 8 5) ok_29.1 (fun r7 h6 ko_34 tq => ?_)
      have ok_35 := Ok_tr ok_29 ko_34 (by decide)
      have f_36 : R (-2147483648) 2147483647 r7 := R_full _
      exact hp _ _ ok_35 (by first | exact tq | exact tq (by decide) | (rw [mI_wI, if_pos ⟨rfl, rfl⟩]; decide)) 
    · have f_37 : R (-2147483648) 2147483647 (mI h4 8 2) := R_full _
      have f_38 : R 0 0 0 := ⟨by decide, by decide⟩
      refine s_X10_refused 6 ok_29.1 (fun r9 h8 ko_39 f_41 tq => ?_)
      have ok_40 := Ok_tr ok_29 ko_39 (by decide)
      exact hp _ _ ok_40 (by first | exact tq | exact tq (by decide) | (rw [mI_wI, if_pos ⟨rfl, rfl⟩]; decide)) 
  · have f_42 : R 0 0 0 := ⟨by decide, by decide⟩
    have f_43 : R 1 1 r2 := rf_ne_lo f_24 c_25 (by decide) 1 rfl
    refine s_X10_refused 1 ok.1 (fun r11 h10 ko_44 f_46 tq => ?_)
    have ok_45 := Ok_tr ok ko_44 (by decide)
    exact hp _ _ ok_45 (by first | exact tq | exact tq (by decide) | (rw [mI_wI, if_pos ⟨rfl, rfl⟩]; decide)) 
set_option maxRecDepth 100000 in
set_option maxHeartbeats 4000000 in
theorem s_X10_memory {g : gT} {h : mh_T} {P : Int32 → mh_T → Prop}  (hG : GI h)  (hp : ∀ (r : Int32) h', Ok [0, 9, 37, 38, 39] h h' → ¬ mI h' 0 11 = 4 → P r h') : MCi g yX10_memory uX10_memory [.ref 0] h P := by
  have ok : Ok [0, 9, 37, 38, 39] h h := Ok_rf hG
  refine e_X10_memory   ?_
  refine s_X10_noBook ok.1 (fun r2 f_25 => ?_)
  refine ⟨fun c_26 => ?_, fun c_26 => ?_⟩
  · have f_27 : R 0 0 0 := ⟨by decide, by decide⟩
    have f_28 : R 0 0 r2 := rf_eq f_27 c_26
    refine s_X9_work ok.1 (fun h4 ko_29 => ?_)
    have ok_30 := Ok_tr ok ko_29 (by decide)
    refine ⟨fun c_31 => ?_, fun c_31 => ?_⟩
    · have f_32 : R 0 3 (mI h4 9 1) := GI_rd ok_30.1 9 _ (by decide)
      have f_33 : R 0 0 0 := ⟨by decide, by decide⟩
      have f_34 : R 1 3 (mI h4 9 1) := rf_ne_lo f_32 c_31 (by decide) 1 rfl
      refine s_X10_told (mI h4 9 1) ok_30.1 (fun r7 h6 ko_35 tq => ?_)
      have ok_36 := Ok_tr ok_30 ko_35 (by decide)
      have f_37 : R (-2147483648) 2147483647 r7 := R_full _
      exact hp _ _ ok_36 (by first | exact tq | exact tq (by decide) | (rw [mI_wI, if_pos ⟨rfl, rfl⟩]; decide)) 
    · have f_38 : R 0 3 (mI h4 9 1) := GI_rd ok_30.1 9 _ (by decide)
      have f_39 : R 0 0 0 := ⟨by decide, by decide⟩
      have f_40 : R 0 0 (mI h4 9 1) := rf_eq f_39 c_31
      refine s_X10_told (-2) ok_30.1 (fun r9 h8 ko_41 tq => ?_)
      have ok_42 := Ok_tr ok_30 ko_41 (by decide)
      have f_43 : R (-2147483648) 2147483647 r9 := R_full _
      exact hp _ _ ok_42 (by first | exact tq | exact tq (by decide) | (rw [mI_wI, if_pos ⟨rfl, rfl⟩]; decide)) 
  · have f_44 : R 0 0 0 := ⟨by decide, by decide⟩
    have f_45 : R 1 1 r2 := rf_ne_lo f_25 c_26 (by decide) 1 rfl
    refine s_X10_refused 1 ok.1 (fun r11 h10 ko_46 f_48 tq => ?_)
    have ok_47 := Ok_tr ok ko_46 (by decide)
    exact hp _ _ ok_47 (by first | exact tq | exact tq (by decide) | (rw [mI_wI, if_pos ⟨rfl, rfl⟩]; decide)) 
set_option maxRecDepth 100000 in
set_option maxHeartbeats 4000000 in
theorem s_X10_machine {g : gT} {h : mh_T} {P : Int32 → mh_T → Prop} (l1 : Int32) (l2 : Int32) (l3 : Int32) (hG : GI h)  (hp : ∀ (r : Int32) h', Ok [0, 9, 37, 38, 39] h h' → ¬ mI h' 0 11 = 4 → P r h') : MCi g yX10_machine uX10_machine [.ref 0, .int l1, .int l2, .int l3] h P := by
  have ok : Ok [0, 9, 37, 38, 39] h h := Ok_rf hG
  refine e_X10_machine l1 l2 l3  ?_
  refine ⟨fun c_44 => ?_, fun c_44 => ?_⟩
  · have f_45 : R 0 0 0 := ⟨by decide, by decide⟩
    have f_46 : R (-2147483648) (-1) l1 := rf_lt_l (R_full l1) f_45 c_44 (-1) (by decide)
    refine s_X10_refused 1 ok.1 (fun r3 h2 ko_47 f_49 tq => ?_)
    have ok_48 := Ok_tr ok ko_47 (by decide)
    exact hp _ _ ok_48 (by first | exact tq | exact tq (by decide) | (rw [mI_wI, if_pos ⟨rfl, rfl⟩]; decide)) 
  · have f_50 : R 0 0 0 := ⟨by decide, by decide⟩
    have f_51 : R 0 2147483647 l1 := rf_le_r f_50 (R_full l1) (nlt c_44) 0 (by decide)
    refine ⟨fun c_52 => ?_, fun c_52 => ?_⟩
    · have f_53 : R 3 3 3 := ⟨by decide, by decide⟩
      have f_54 : R 3 2147483647 l1 := rf_le_r f_53 f_51 c_52 3 (by decide)
      refine s_X10_refused 1 ok.1 (fun r6 h5 ko_55 f_57 tq => ?_)
      have ok_56 := Ok_tr ok ko_55 (by decide)
      exact hp _ _ ok_56 (by first | exact tq | exact tq (by decide) | (rw [mI_wI, if_pos ⟨rfl, rfl⟩]; decide)) 
    · have f_58 : R 3 3 3 := ⟨by decide, by decide⟩
      have f_59 : R 0 2 l1 := rf_lt_l f_51 f_58 (nle c_52) 2 (by decide)
      refine s_X8_hasLook l2 ok.1 (fun r8 f_61 im_60 => ?_)
      refine ⟨fun c_62 => ?_, fun c_62 => ?_⟩
      · have f_63 : R 0 0 0 := ⟨by decide, by decide⟩
        have f_64 := (im_60 c_62)
        have f_65 : R 1 1 r8 := rf_ne_lo f_61 c_62 (by decide) 1 rfl
        refine s_X9_work ok.1 (fun h10 ko_66 => ?_)
        have ok_67 := Ok_tr ok ko_66 (by decide)
        refine ⟨fun c_68 => ?_, fun c_68 => ?_⟩
        · have f_69 : R 0 3 (mI h10 9 1) := GI_rd ok_67.1 9 _ (by decide)
          have f_70 : R 0 0 0 := ⟨by decide, by decide⟩
          have f_71 : R 1 3 (mI h10 9 1) := rf_ne_lo f_69 c_68 (by decide) 1 rfl
          refine s_X9_entry l1 l2 l3 ok_67.1 (R_w f_59 (by decide)) (R_w f_64 (by decide)) (fun r13 f_72 => ?_)
          refine s_X10_told r13 ok_67.1 (fun r15 h14 ko_73 tq => ?_)
          have ok_74 := Ok_tr ok_67 ko_73 (by decide)
          have f_75 : R (-2147483648) 2147483647 r15 := R_full _
          exact hp _ _ ok_74 (by first | exact tq | exact tq (by decide) | (rw [mI_wI, if_pos ⟨rfl, rfl⟩]; decide)) 
        · have f_76 : R 0 3 (mI h10 9 1) := GI_rd ok_67.1 9 _ (by decide)
          have f_77 : R 0 0 0 := ⟨by decide, by decide⟩
          have f_78 : R 0 0 (mI h10 9 1) := rf_eq f_77 c_68
          refine s_X10_refused 6 ok_67.1 (fun r17 h16 ko_79 f_81 tq => ?_)
          have ok_80 := Ok_tr ok_67 ko_79 (by decide)
          exact hp _ _ ok_80 (by first | exact tq | exact tq (by decide) | (rw [mI_wI, if_pos ⟨rfl, rfl⟩]; decide)) 
      · have f_82 : R 0 0 0 := ⟨by decide, by decide⟩
        have f_83 : R 0 0 r8 := rf_eq f_82 c_62
        refine s_X10_refused 1 ok.1 (fun r19 h18 ko_84 f_86 tq => ?_)
        have ok_85 := Ok_tr ok ko_84 (by decide)
        exact hp _ _ ok_85 (by first | exact tq | exact tq (by decide) | (rw [mI_wI, if_pos ⟨rfl, rfl⟩]; decide)) 
set_option maxRecDepth 100000 in
set_option maxHeartbeats 4000000 in
theorem s_X10_flip {g : gT} {h : mh_T} {P : Int32 → mh_T → Prop} (l1 : Int32) (hG : GI h)  (hp : ∀ (r : Int32) h', Ok [0, 3, 10, 26, 27, 40, 41, 302] h h' → R 0 1 r → ¬ mI h' 0 11 = 4 → P r h') : MCi g yX10_flip uX10_flip [.ref 0, .int l1] h P := by
  have ok : Ok [0, 3, 10, 26, 27, 40, 41, 302] h h := Ok_rf hG
  refine e_X10_flip l1  ?_
  refine s_X8_hasLook l1 ok.1 (fun r2 f_20 im_19 => ?_)
  refine ⟨fun c_21 => ?_, fun c_21 => ?_⟩
  · have f_22 : R 0 0 0 := ⟨by decide, by decide⟩
    have f_23 := (im_19 c_21)
    have f_24 : R 1 1 r2 := rf_ne_lo f_20 c_21 (by decide) 1 rfl
    refine s_X4_begin 0 l1 ok.1 (fun h4 ko_25 => ?_)
    have ok_26 := Ok_tr ok ko_25 (by decide)
    refine s_X8_turn l1 ok_26.1 (fun h5 ko_27 => ?_)
    have ok_28 := Ok_tr ok_26 ko_27 (by decide)
    refine s_X10_done ok_28.1 (fun r7 h6 ko_29 f_31 tq => ?_)
    have ok_30 := Ok_tr ok_28 ko_29 (by decide)
    exact ⟨R_z (R_w f_31 (by decide)), hp _ _ ok_30 (R_w f_31 (by decide)) (by first | exact tq | exact tq (by decide) | (rw [mI_wI, if_pos ⟨rfl, rfl⟩]; decide))⟩
  · have f_32 : R 0 0 0 := ⟨by decide, by decide⟩
    have f_33 : R 0 0 r2 := rf_eq f_32 c_21
    refine s_X10_denied 1 ok.1 (fun r9 h8 ko_34 f_36 tq => ?_)
    have ok_35 := Ok_tr ok ko_34 (by decide)
    exact ⟨R_z (R_w f_36 (by decide)), hp _ _ ok_35 (R_w f_36 (by decide)) (by first | exact tq | exact tq (by decide) | (rw [mI_wI, if_pos ⟨rfl, rfl⟩]; decide))⟩
set_option maxRecDepth 100000 in
set_option maxHeartbeats 4000000 in
theorem s_X10_drop {g : gT} {h : mh_T} {P : Int32 → mh_T → Prop} (l1 : Int32) (hG : GI h)  (hp : ∀ (r : Int32) h', Ok [0, 3, 10, 24, 25, 26, 27, 40, 41, 302] h h' → R 0 1 r → ¬ mI h' 0 11 = 4 → P r h') : MCi g yX10_drop uX10_drop [.ref 0, .int l1] h P := by
  have ok : Ok [0, 3, 10, 24, 25, 26, 27, 40, 41, 302] h h := Ok_rf hG
  refine e_X10_drop l1  ?_
  refine s_X8_hasSet l1 ok.1 (fun r2 f_23 im_22 => ?_)
  refine ⟨fun c_24 => ?_, fun c_24 => ?_⟩
  · have f_25 : R 0 0 0 := ⟨by decide, by decide⟩
    have f_26 := (im_22 c_24).1
    have f_27 := (im_22 c_24).2
    have f_28 : R 1 1 r2 := rf_ne_lo f_23 c_24 (by decide) 1 rfl
    refine s_X4_begin 1 l1 ok.1 (fun h4 ko_29 => ?_)
    have ok_30 := Ok_tr ok ko_29 (by decide)
    have f_31 : R 1 8 (mI h4 3 2) := Ok_rd ko_29 (by decide) f_27
    refine s_X8_remove l1 ok_30.1 (R_w f_26 (by decide)) (R_w f_31 (by decide)) (fun h5 ko_32 po_34 => ?_)
    have ok_33 := Ok_tr ok_30 ko_32 (by decide)
    refine s_X10_done ok_33.1 (fun r7 h6 ko_35 f_37 tq => ?_)
    have ok_36 := Ok_tr ok_33 ko_35 (by decide)
    exact ⟨R_z (R_w f_37 (by decide)), hp _ _ ok_36 (R_w f_37 (by decide)) (by first | exact tq | exact tq (by decide) | (rw [mI_wI, if_pos ⟨rfl, rfl⟩]; decide))⟩
  · have f_38 : R 0 0 0 := ⟨by decide, by decide⟩
    have f_39 : R 0 0 r2 := rf_eq f_38 c_24
    refine s_X10_denied 1 ok.1 (fun r9 h8 ko_40 f_42 tq => ?_)
    have ok_41 := Ok_tr ok ko_40 (by decide)
    exact ⟨R_z (R_w f_42 (by decide)), hp _ _ ok_41 (R_w f_42 (by decide)) (by first | exact tq | exact tq (by decide) | (rw [mI_wI, if_pos ⟨rfl, rfl⟩]; decide))⟩
set_option maxRecDepth 100000 in
set_option maxHeartbeats 4000000 in
theorem s_X10_forget {g : gT} {h : mh_T} {P : Int32 → mh_T → Prop} (l1 : Int32) (hG : GI h)  (hp : ∀ (r : Int32) h', Ok [0, 3, 10, 24, 25, 26, 27, 40, 41, 302] h h' → R 0 1 r → ¬ mI h' 0 11 = 4 → P r h') : MCi g yX10_forget uX10_forget [.ref 0, .int l1] h P := by
  have ok : Ok [0, 3, 10, 24, 25, 26, 27, 40, 41, 302] h h := Ok_rf hG
  refine e_X10_forget l1  ?_
  refine s_X8_hasLook l1 ok.1 (fun r2 f_29 im_28 => ?_)
  refine ⟨fun c_30 => ?_, fun c_30 => ?_⟩
  · have f_31 : R 0 0 0 := ⟨by decide, by decide⟩
    have f_32 := (im_28 c_30)
    have f_33 : R 1 1 r2 := rf_ne_lo f_29 c_30 (by decide) 1 rfl
    refine s_X8_isLookedAt l1 ok.1 (fun r5 f_34 => ?_)
    refine ⟨fun c_35 => ?_, fun c_35 => ?_⟩
    · have f_36 : R 0 0 0 := ⟨by decide, by decide⟩
      have f_37 : R 1 1 r5 := rf_ne_lo f_34 c_35 (by decide) 1 rfl
      refine s_X4_begin 2 l1 ok.1 (fun h7 ko_38 => ?_)
      have ok_39 := Ok_tr ok ko_38 (by decide)
      refine s_X8_merge l1 ok_39.1 (fun h8 ko_40 => ?_)
      have ok_41 := Ok_tr ok_39 ko_40 (by decide)
      refine s_X10_done ok_41.1 (fun r10 h9 ko_42 f_44 tq => ?_)
      have ok_43 := Ok_tr ok_41 ko_42 (by decide)
      exact ⟨R_z (R_w f_44 (by decide)), hp _ _ ok_43 (R_w f_44 (by decide)) (by first | exact tq | exact tq (by decide) | (rw [mI_wI, if_pos ⟨rfl, rfl⟩]; decide))⟩
    · have f_45 : R 0 0 0 := ⟨by decide, by decide⟩
      have f_46 : R 0 0 r5 := rf_eq f_45 c_35
      refine s_X10_denied 5 ok.1 (fun r12 h11 ko_47 f_49 tq => ?_)
      have ok_48 := Ok_tr ok ko_47 (by decide)
      exact ⟨R_z (R_w f_49 (by decide)), hp _ _ ok_48 (R_w f_49 (by decide)) (by first | exact tq | exact tq (by decide) | (rw [mI_wI, if_pos ⟨rfl, rfl⟩]; decide))⟩
  · have f_50 : R 0 0 0 := ⟨by decide, by decide⟩
    have f_51 : R 0 0 r2 := rf_eq f_50 c_30
    refine s_X10_denied 1 ok.1 (fun r14 h13 ko_52 f_54 tq => ?_)
    have ok_53 := Ok_tr ok ko_52 (by decide)
    exact ⟨R_z (R_w f_54 (by decide)), hp _ _ ok_53 (R_w f_54 (by decide)) (by first | exact tq | exact tq (by decide) | (rw [mI_wI, if_pos ⟨rfl, rfl⟩]; decide))⟩
set_option maxRecDepth 100000 in
set_option maxHeartbeats 4000000 in
theorem s_X10_shift {g : gT} {h : mh_T} {P : Int32 → mh_T → Prop} (l1 : Int32) (l2 : Int32) (l3 : Int32) (l4 : Int32) (hG : GI h)  (hp : ∀ (r : Int32) h', Ok [0, 3, 10, 26, 40, 41, 302] h h' → R 0 1 r → ¬ mI h' 0 11 = 4 → P r h') : MCi g yX10_shift uX10_shift [.ref 0, .int l1, .int l2, .int l3, .int l4] h P := by
  have ok : Ok [0, 3, 10, 26, 40, 41, 302] h h := Ok_rf hG
  refine e_X10_shift l1 l2 l3 l4  ?_
  refine s_X8_hasOutcome l1 l2 ok.1 (fun r2 f_67 im_66 => ?_)
  refine ⟨fun c_68 => ?_, fun c_68 => ?_⟩
  · have f_69 : R 0 0 0 := ⟨by decide, by decide⟩
    have f_70 : R 0 0 r2 := rf_eq f_69 c_68
    refine s_X10_denied 1 ok.1 (fun r5 h4 ko_71 f_73 tq => ?_)
    have ok_72 := Ok_tr ok ko_71 (by decide)
    exact ⟨R_z (R_w f_73 (by decide)), hp _ _ ok_72 (R_w f_73 (by decide)) (by first | exact tq | exact tq (by decide) | (rw [mI_wI, if_pos ⟨rfl, rfl⟩]; decide))⟩
  · have f_74 : R 0 0 0 := ⟨by decide, by decide⟩
    have f_75 := (im_66 c_68).1
    have f_76 := (im_66 c_68).2
    have f_77 : R 1 1 r2 := rf_ne_lo f_67 c_68 (by decide) 1 rfl
    refine s_X8_hasOutcome l1 l3 ok.1 (fun r7 f_79 im_78 => ?_)
    refine ⟨fun c_80 => ?_, fun c_80 => ?_⟩
    · have f_81 : R 0 0 0 := ⟨by decide, by decide⟩
      have f_82 : R 0 0 r7 := rf_eq f_81 c_80
      refine s_X10_denied 1 ok.1 (fun r10 h9 ko_83 f_85 tq => ?_)
      have ok_84 := Ok_tr ok ko_83 (by decide)
      exact ⟨R_z (R_w f_85 (by decide)), hp _ _ ok_84 (R_w f_85 (by decide)) (by first | exact tq | exact tq (by decide) | (rw [mI_wI, if_pos ⟨rfl, rfl⟩]; decide))⟩
    · have f_86 : R 0 0 0 := ⟨by decide, by decide⟩
      have f_87 := (im_78 c_80).1
      have f_88 := (im_78 c_80).2
      have f_89 : R 1 1 r7 := rf_ne_lo f_79 c_80 (by decide) 1 rfl
      refine ⟨fun c_90 => ?_, fun c_90 => ?_⟩
      · refine ⟨fun c_91 => ?_, fun c_91 => ?_⟩
        · have f_92 : R 1 1 1 := ⟨by decide, by decide⟩
          have f_93 : R (-2147483648) 0 l4 := rf_lt_l (R_full l4) f_92 c_91 0 (by decide)
          refine s_X10_denied 2 ok.1 (fun r14 h13 ko_94 f_96 tq => ?_)
          have ok_95 := Ok_tr ok ko_94 (by decide)
          exact ⟨R_z (R_w f_96 (by decide)), hp _ _ ok_95 (R_w f_96 (by decide)) (by first | exact tq | exact tq (by decide) | (rw [mI_wI, if_pos ⟨rfl, rfl⟩]; decide))⟩
        · have f_97 : R 1 1 1 := ⟨by decide, by decide⟩
          have f_98 : R 1 2147483647 l4 := rf_le_r f_97 (R_full l4) (nlt c_91) 1 (by decide)
          refine ⟨fun c_99 => ?_, fun c_99 => ?_⟩
          · have f_100 : R 60 60 60 := ⟨by decide, by decide⟩
            have f_101 : R 1 60 l4 := rf_le_l f_98 f_100 c_99 60 (by decide)
            have f_104 : R 4 4 4 := ⟨by decide, by decide⟩
            have f_103 : R 0 28 (4 * l1) := R_mul f_104 f_75 0 28 (by decide)
            have f_102 : R 0 31 ((4 * l1) + l2) := R_add f_103 f_76 0 31 (by decide)
            refine ⟨vin f_102 (by decide), ?_⟩
            refine ⟨fun c_105 => ?_, fun c_105 => ?_⟩
            · have f_106 : R (-2147483648) 2147483647 (mI h 26 ((4 * l1) + l2).toNatClampNeg) := R_full _
              have f_107 : R 1 2147483647 (mI h 26 ((4 * l1) + l2).toNatClampNeg) := rf_le_r f_101 f_106 c_105 1 (by decide)
              refine s_X4_begin 3 l1 ok.1 (fun h18 ko_108 => ?_)
              have ok_109 := Ok_tr ok ko_108 (by decide)
              refine s_X4_tellMove l2 l3 l4 ok_109.1 (fun h19 ko_110 => ?_)
              have ok_111 := Ok_tr ok_109 ko_110 (by decide)
              have f_112 : R 0 31 ((4 * l1) + l3) := R_add f_103 f_88 0 31 (by decide)
              refine s_X8_move ((4 * l1) + l2) ((4 * l1) + l3) l4 ok_111.1 (R_w f_102 (by decide)) (R_w f_112 (by decide)) (fun h20 ko_113 => ?_)
              have ok_114 := Ok_tr ok_111 ko_113 (by decide)
              refine s_X10_done ok_114.1 (fun r22 h21 ko_115 f_117 tq => ?_)
              have ok_116 := Ok_tr ok_114 ko_115 (by decide)
              exact ⟨R_z (R_w f_117 (by decide)), hp _ _ ok_116 (R_w f_117 (by decide)) (by first | exact tq | exact tq (by decide) | (rw [mI_wI, if_pos ⟨rfl, rfl⟩]; decide))⟩
            · have f_118 : R (-2147483648) 2147483647 (mI h 26 ((4 * l1) + l2).toNatClampNeg) := R_full _
              have f_119 : R (-2147483648) 59 (mI h 26 ((4 * l1) + l2).toNatClampNeg) := rf_lt_l f_118 f_101 (nle c_105) 59 (by decide)
              refine s_X10_denied 5 ok.1 (fun r24 h23 ko_120 f_122 tq => ?_)
              have ok_121 := Ok_tr ok ko_120 (by decide)
              exact ⟨R_z (R_w f_122 (by decide)), hp _ _ ok_121 (R_w f_122 (by decide)) (by first | exact tq | exact tq (by decide) | (rw [mI_wI, if_pos ⟨rfl, rfl⟩]; decide))⟩
          · have f_123 : R 60 60 60 := ⟨by decide, by decide⟩
            have f_124 : R 61 2147483647 l4 := rf_lt_r f_123 f_98 (nle c_99) 61 (by decide)
            refine s_X10_denied 2 ok.1 (fun r26 h25 ko_125 f_127 tq => ?_)
            have ok_126 := Ok_tr ok ko_125 (by decide)
            exact ⟨R_z (R_w f_127 (by decide)), hp _ _ ok_126 (R_w f_127 (by decide)) (by first | exact tq | exact tq (by decide) | (rw [mI_wI, if_pos ⟨rfl, rfl⟩]; decide))⟩
      · refine s_X10_denied 1 ok.1 (fun r28 h27 ko_128 f_130 tq => ?_)
        have ok_129 := Ok_tr ok ko_128 (by decide)
        exact ⟨R_z (R_w f_130 (by decide)), hp _ _ ok_129 (R_w f_130 (by decide)) (by first | exact tq | exact tq (by decide) | (rw [mI_wI, if_pos ⟨rfl, rfl⟩]; decide))⟩
set_option maxRecDepth 100000 in
set_option maxHeartbeats 4000000 in
theorem s_X10_undo {g : gT} {h : mh_T} {P : Int32 → mh_T → Prop}  (hG : GI h)  (hp : ∀ (r : Int32) h', Ok [0, 3, 10, 24, 25, 26, 27, 302] h h' → R 0 1 r → ¬ mI h' 0 11 = 4 → P r h') : MCi g yX10_undo uX10_undo [.ref 0] h P := by
  have ok : Ok [0, 3, 10, 24, 25, 26, 27, 302] h h := Ok_rf hG
  refine e_X10_undo   ?_
  refine s_X4_takeBack ok.1 (fun r2 h1 ko_15 f_17 => ?_)
  have ok_16 := Ok_tr ok ko_15 (by decide)
  refine ⟨fun c_18 => ?_, fun c_18 => ?_⟩
  · have f_19 : R 0 0 0 := ⟨by decide, by decide⟩
    have f_20 : R 0 0 r2 := rf_eq f_19 c_18
    refine s_X10_denied 6 ok_16.1 (fun r5 h4 ko_21 f_23 tq => ?_)
    have ok_22 := Ok_tr ok_16 ko_21 (by decide)
    exact ⟨R_z (R_w f_23 (by decide)), hp _ _ ok_22 (R_w f_23 (by decide)) (by first | exact tq | exact tq (by decide) | (rw [mI_wI, if_pos ⟨rfl, rfl⟩]; decide))⟩
  · have f_24 : R 0 0 0 := ⟨by decide, by decide⟩
    have f_25 : R 1 1 r2 := rf_ne_lo f_17 c_18 (by decide) 1 rfl
    refine s_X10_done ok_16.1 (fun r7 h6 ko_26 f_28 tq => ?_)
    have ok_27 := Ok_tr ok_16 ko_26 (by decide)
    exact ⟨R_z (R_w f_28 (by decide)), hp _ _ ok_27 (R_w f_28 (by decide)) (by first | exact tq | exact tq (by decide) | (rw [mI_wI, if_pos ⟨rfl, rfl⟩]; decide))⟩
set_option maxRecDepth 100000 in
set_option maxHeartbeats 4000000 in
theorem s_X10_redo {g : gT} {h : mh_T} {P : Int32 → mh_T → Prop}  (hG : GI h)  (hp : ∀ (r : Int32) h', Ok [0, 3, 10, 24, 25, 26, 27, 302] h h' → R 0 1 r → ¬ mI h' 0 11 = 4 → P r h') : MCi g yX10_redo uX10_redo [.ref 0] h P := by
  have ok : Ok [0, 3, 10, 24, 25, 26, 27, 302] h h := Ok_rf hG
  refine e_X10_redo   ?_
  refine s_X4_makeAgain ok.1 (fun r2 h1 ko_15 f_17 => ?_)
  have ok_16 := Ok_tr ok ko_15 (by decide)
  refine ⟨fun c_18 => ?_, fun c_18 => ?_⟩
  · have f_19 : R 0 0 0 := ⟨by decide, by decide⟩
    have f_20 : R 0 0 r2 := rf_eq f_19 c_18
    refine s_X10_denied 6 ok_16.1 (fun r5 h4 ko_21 f_23 tq => ?_)
    have ok_22 := Ok_tr ok_16 ko_21 (by decide)
    exact ⟨R_z (R_w f_23 (by decide)), hp _ _ ok_22 (R_w f_23 (by decide)) (by first | exact tq | exact tq (by decide) | (rw [mI_wI, if_pos ⟨rfl, rfl⟩]; decide))⟩
  · have f_24 : R 0 0 0 := ⟨by decide, by decide⟩
    have f_25 : R 1 1 r2 := rf_ne_lo f_17 c_18 (by decide) 1 rfl
    refine s_X10_done ok_16.1 (fun r7 h6 ko_26 f_28 tq => ?_)
    have ok_27 := Ok_tr ok_16 ko_26 (by decide)
    exact ⟨R_z (R_w f_28 (by decide)), hp _ _ ok_27 (R_w f_28 (by decide)) (by first | exact tq | exact tq (by decide) | (rw [mI_wI, if_pos ⟨rfl, rfl⟩]; decide))⟩
set_option maxRecDepth 100000 in
set_option maxHeartbeats 4000000 in
theorem s_X10_mark {g : gT} {h : mh_T} {P : Int32 → mh_T → Prop}  (hG : GI h)  (hp : ∀ (r : Int32) h', Ok [0, 10, 302] h h' → ¬ mI h' 0 11 = 4 → P r h') : MCi g yX10_mark uX10_mark [.ref 0] h P := by
  have ok : Ok [0, 10, 302] h h := Ok_rf hG
  refine e_X10_mark   ?_
  refine s_X10_noBook ok.1 (fun r2 f_27 => ?_)
  refine ⟨fun c_28 => ?_, fun c_28 => ?_⟩
  · have f_29 : R 0 0 0 := ⟨by decide, by decide⟩
    have f_30 : R 0 0 r2 := rf_eq f_29 c_28
    refine ⟨fun c_31 => ?_, fun c_31 => ?_⟩
    · have f_32 : R 0 4 (mI h 10 2) := GI_rd ok.1 10 _ (by decide)
      have f_33 : R 4 4 4 := ⟨by decide, by decide⟩
      have f_34 : R 0 3 (mI h 10 2) := rf_lt_l f_32 f_33 c_31 3 (by decide)
      have f_35 : R 4 4 4 := ⟨by decide, by decide⟩
      refine s_X4_keep ok.1 (R_w f_34 (by decide)) (fun r6 h5 ko_36 f_38 => ?_)
      have ok_37 := Ok_tr ok ko_36 (by decide)
      refine s_X10_told r6 ok_37.1 (fun r8 h7 ko_39 tq => ?_)
      have ok_40 := Ok_tr ok_37 ko_39 (by decide)
      have f_41 : R (-2147483648) 2147483647 r8 := R_full _
      exact hp _ _ ok_40 (by first | exact tq | exact tq (by decide) | (rw [mI_wI, if_pos ⟨rfl, rfl⟩]; decide)) 
    · have f_42 : R 0 4 (mI h 10 2) := GI_rd ok.1 10 _ (by decide)
      have f_43 : R 4 4 4 := ⟨by decide, by decide⟩
      have f_44 : R 4 4 (mI h 10 2) := rf_le_r f_43 f_42 (nlt c_31) 4 (by decide)
      refine s_X10_refused 3 ok.1 (fun r10 h9 ko_45 f_47 tq => ?_)
      have ok_46 := Ok_tr ok ko_45 (by decide)
      exact hp _ _ ok_46 (by first | exact tq | exact tq (by decide) | (rw [mI_wI, if_pos ⟨rfl, rfl⟩]; decide)) 
  · have f_48 : R 0 0 0 := ⟨by decide, by decide⟩
    have f_49 : R 1 1 r2 := rf_ne_lo f_27 c_28 (by decide) 1 rfl
    refine s_X10_refused 1 ok.1 (fun r12 h11 ko_50 f_52 tq => ?_)
    have ok_51 := Ok_tr ok ko_50 (by decide)
    exact hp _ _ ok_51 (by first | exact tq | exact tq (by decide) | (rw [mI_wI, if_pos ⟨rfl, rfl⟩]; decide)) 
set_option maxRecDepth 100000 in
set_option maxHeartbeats 4000000 in
theorem s_X10_back {g : gT} {h : mh_T} {P : Int32 → mh_T → Prop} (l1 : Int32) (hG : GI h)  (hp : ∀ (r : Int32) h', Ok [0, 3, 10, 24, 25, 26, 27, 302] h h' → R 0 1 r → ¬ mI h' 0 11 = 4 → P r h') : MCi g yX10_back uX10_back [.ref 0, .int l1] h P := by
  have ok : Ok [0, 3, 10, 24, 25, 26, 27, 302] h h := Ok_rf hG
  refine e_X10_back l1  ?_
  refine s_X4_goBack l1 ok.1 (fun r2 h1 ko_15 f_17 => ?_)
  have ok_16 := Ok_tr ok ko_15 (by decide)
  refine ⟨fun c_18 => ?_, fun c_18 => ?_⟩
  · have f_19 : R 0 0 0 := ⟨by decide, by decide⟩
    have f_20 : R 0 0 r2 := rf_eq f_19 c_18
    refine s_X10_denied 1 ok_16.1 (fun r5 h4 ko_21 f_23 tq => ?_)
    have ok_22 := Ok_tr ok_16 ko_21 (by decide)
    exact ⟨R_z (R_w f_23 (by decide)), hp _ _ ok_22 (R_w f_23 (by decide)) (by first | exact tq | exact tq (by decide) | (rw [mI_wI, if_pos ⟨rfl, rfl⟩]; decide))⟩
  · have f_24 : R 0 0 0 := ⟨by decide, by decide⟩
    have f_25 : R 1 1 r2 := rf_ne_lo f_17 c_18 (by decide) 1 rfl
    refine s_X10_done ok_16.1 (fun r7 h6 ko_26 f_28 tq => ?_)
    have ok_27 := Ok_tr ok_16 ko_26 (by decide)
    exact ⟨R_z (R_w f_28 (by decide)), hp _ _ ok_27 (R_w f_28 (by decide)) (by first | exact tq | exact tq (by decide) | (rw [mI_wI, if_pos ⟨rfl, rfl⟩]; decide))⟩
set_option maxRecDepth 100000 in
set_option maxHeartbeats 4000000 in
theorem s_X10_act {g : gT} {h : mh_T} {P : Int32 → mh_T → Prop} (l1 : Int32) (l2 : Int32) (hG : GI h)  (hp : ∀ (r : Int32) h', Ok [0] h h' → ¬ mI h' 0 11 = 4 → P r h') : MCi g yX10_act uX10_act [.ref 0, .int l1, .int l2] h P := by
  have ok : Ok [0] h h := Ok_rf hG
  refine e_X10_act l1 l2  ?_
  refine ⟨fun c_39 => ?_, fun c_39 => ?_⟩
  · have f_40 : R 0 0 0 := ⟨by decide, by decide⟩
    have f_41 : R (-2147483648) (-1) l1 := rf_lt_l (R_full l1) f_40 c_39 (-1) (by decide)
    refine s_X10_refused 1 ok.1 (fun r3 h2 ko_42 f_44 tq => ?_)
    have ok_43 := Ok_tr ok ko_42 (by decide)
    exact hp _ _ ok_43 (by first | exact tq | exact tq (by decide) | (rw [mI_wI, if_pos ⟨rfl, rfl⟩]; decide)) 
  · have f_45 : R 0 0 0 := ⟨by decide, by decide⟩
    have f_46 : R 0 2147483647 l1 := rf_le_r f_45 (R_full l1) (nlt c_39) 0 (by decide)
    refine ⟨fun c_47 => ?_, fun c_47 => ?_⟩
    · have f_48 : R 0 20 (mI h 10 0) := GI_rd ok.1 10 _ (by decide)
      refine s_X10_refused 1 ok.1 (fun r6 h5 ko_49 f_51 tq => ?_)
      have ok_50 := Ok_tr ok ko_49 (by decide)
      exact hp _ _ ok_50 (by first | exact tq | exact tq (by decide) | (rw [mI_wI, if_pos ⟨rfl, rfl⟩]; decide)) 
    · have f_52 : R 0 20 (mI h 10 0) := GI_rd ok.1 10 _ (by decide)
      have f_53 : R 0 19 l1 := rf_lt_l f_46 f_52 (nle c_47) 19 (by decide)
      have f_54 : R 1 20 (mI h 10 0) := rf_lt_r f_46 f_52 (nle c_47) 1 (by decide)
      refine ⟨fun c_55 => ?_, fun c_55 => ?_⟩
      · have f_56 : R 0 0 0 := ⟨by decide, by decide⟩
        have f_57 : R (-2147483648) (-1) l2 := rf_lt_l (R_full l2) f_56 c_55 (-1) (by decide)
        refine s_X10_refused 1 ok.1 (fun r9 h8 ko_58 f_60 tq => ?_)
        have ok_59 := Ok_tr ok ko_58 (by decide)
        exact hp _ _ ok_59 (by first | exact tq | exact tq (by decide) | (rw [mI_wI, if_pos ⟨rfl, rfl⟩]; decide)) 
      · have f_61 : R 0 0 0 := ⟨by decide, by decide⟩
        have f_62 : R 0 2147483647 l2 := rf_le_r f_61 (R_full l2) (nlt c_55) 0 (by decide)
        refine ⟨fun c_63 => ?_, fun c_63 => ?_⟩
        · have f_64 : R 5 5 5 := ⟨by decide, by decide⟩
          have f_65 : R 0 4 l2 := rf_lt_l f_62 f_64 c_63 4 (by decide)
          have f_66 : R 0 0 0 := ⟨by decide, by decide⟩
          refine ⟨vin f_53 (by decide), ?_⟩
          refine ⟨(ok.1.2.1 _ (ix_lt f_53 (by decide))), ?_⟩
          have f_67 : R 0 0 0 := ⟨by decide, by decide⟩
          have f_68 : R 5 5 5 := ⟨by decide, by decide⟩
          refine ⟨vin f_65 (by decide), ?_⟩
          refine s_X10_told (mI h (mR h 40 l1.toNatClampNeg) l2.toNatClampNeg) ok.1 (fun r15 h14 ko_69 tq => ?_)
          have ok_70 := Ok_tr ok ko_69 (by decide)
          have f_71 : R (-2147483648) 2147483647 r15 := R_full _
          exact hp _ _ ok_70 (by first | exact tq | exact tq (by decide) | (rw [mI_wI, if_pos ⟨rfl, rfl⟩]; decide)) 
        · have f_72 : R 5 5 5 := ⟨by decide, by decide⟩
          have f_73 : R 5 2147483647 l2 := rf_le_r f_72 f_62 (nlt c_63) 5 (by decide)
          refine s_X10_refused 1 ok.1 (fun r17 h16 ko_74 f_76 tq => ?_)
          have ok_75 := Ok_tr ok ko_74 (by decide)
          exact hp _ _ ok_75 (by first | exact tq | exact tq (by decide) | (rw [mI_wI, if_pos ⟨rfl, rfl⟩]; decide)) 
set_option maxRecDepth 100000 in
set_option maxHeartbeats 4000000 in
theorem s_X10_times {g : gT} {h : mh_T} {P : Int32 → mh_T → Prop} (l1 : Int32) (l2 : Int32) (hG : GI h)  (hp : ∀ (r : Int32) h', Ok [0] h h' → ¬ mI h' 0 11 = 4 → P r h') : MCi g yX10_times uX10_times [.ref 0, .int l1, .int l2] h P := by
  have ok : Ok [0] h h := Ok_rf hG
  refine e_X10_times l1 l2  ?_
  refine s_X8_hasOutcome l1 l2 ok.1 (fun r2 f_20 im_19 => ?_)
  refine ⟨fun c_21 => ?_, fun c_21 => ?_⟩
  · have f_22 : R 0 0 0 := ⟨by decide, by decide⟩
    have f_23 := (im_19 c_21).1
    have f_24 := (im_19 c_21).2
    have f_25 : R 1 1 r2 := rf_ne_lo f_20 c_21 (by decide) 1 rfl
    have f_28 : R 4 4 4 := ⟨by decide, by decide⟩
    have f_27 : R 0 28 (4 * l1) := R_mul f_28 f_23 0 28 (by decide)
    have f_26 : R 0 31 ((4 * l1) + l2) := R_add f_27 f_24 0 31 (by decide)
    refine ⟨vin f_26 (by decide), ?_⟩
    refine s_X10_told (mI h 26 ((4 * l1) + l2).toNatClampNeg) ok.1 (fun r6 h5 ko_29 tq => ?_)
    have ok_30 := Ok_tr ok ko_29 (by decide)
    have f_31 : R (-2147483648) 2147483647 r6 := R_full _
    exact hp _ _ ok_30 (by first | exact tq | exact tq (by decide) | (rw [mI_wI, if_pos ⟨rfl, rfl⟩]; decide)) 
  · have f_32 : R 0 0 0 := ⟨by decide, by decide⟩
    have f_33 : R 0 0 r2 := rf_eq f_32 c_21
    refine s_X10_refused 1 ok.1 (fun r8 h7 ko_34 f_36 tq => ?_)
    have ok_35 := Ok_tr ok ko_34 (by decide)
    exact hp _ _ ok_35 (by first | exact tq | exact tq (by decide) | (rw [mI_wI, if_pos ⟨rfl, rfl⟩]; decide)) 
set_option maxRecDepth 100000 in
set_option maxHeartbeats 4000000 in
theorem s_X10_look {g : gT} {h : mh_T} {P : Int32 → mh_T → Prop} (l1 : Int32) (l2 : Int32) (hG : GI h)  (hp : ∀ (r : Int32) h', Ok [0] h h' → ¬ mI h' 0 11 = 4 → P r h') : MCi g yX10_look uX10_look [.ref 0, .int l1, .int l2] h P := by
  have ok : Ok [0] h h := Ok_rf hG
  refine e_X10_look l1 l2  ?_
  refine s_X8_hasSet l1 ok.1 (fun r2 f_24 im_23 => ?_)
  refine ⟨fun c_25 => ?_, fun c_25 => ?_⟩
  · have f_26 : R 0 0 0 := ⟨by decide, by decide⟩
    have f_27 := (im_23 c_25).1
    have f_28 := (im_23 c_25).2
    have f_29 : R 1 1 r2 := rf_ne_lo f_24 c_25 (by decide) 1 rfl
    refine ⟨fun c_30 => ?_, fun c_30 => ?_⟩
    · have f_31 : R 0 0 0 := ⟨by decide, by decide⟩
      have f_32 : R 0 0 l2 := rf_eq f_31 c_30
      refine ⟨vin f_27 (by decide), ?_⟩
      refine s_X10_told (mI h 24 l1.toNatClampNeg) ok.1 (fun r7 h6 ko_33 tq => ?_)
      have ok_34 := Ok_tr ok ko_33 (by decide)
      have f_35 : R (-2147483648) 2147483647 r7 := R_full _
      exact hp _ _ ok_34 (by first | exact tq | exact tq (by decide) | (rw [mI_wI, if_pos ⟨rfl, rfl⟩]; decide)) 
    · have f_36 : R 0 0 0 := ⟨by decide, by decide⟩
      refine ⟨vin f_27 (by decide), ?_⟩
      refine s_X10_told (mI h 25 l1.toNatClampNeg) ok.1 (fun r10 h9 ko_37 tq => ?_)
      have ok_38 := Ok_tr ok ko_37 (by decide)
      have f_39 : R (-2147483648) 2147483647 r10 := R_full _
      exact hp _ _ ok_38 (by first | exact tq | exact tq (by decide) | (rw [mI_wI, if_pos ⟨rfl, rfl⟩]; decide)) 
  · have f_40 : R 0 0 0 := ⟨by decide, by decide⟩
    have f_41 : R 0 0 r2 := rf_eq f_40 c_25
    refine s_X10_refused 1 ok.1 (fun r12 h11 ko_42 f_44 tq => ?_)
    have ok_43 := Ok_tr ok ko_42 (by decide)
    exact hp _ _ ok_43 (by first | exact tq | exact tq (by decide) | (rw [mI_wI, if_pos ⟨rfl, rfl⟩]; decide)) 
set_option maxRecDepth 100000 in
set_option maxHeartbeats 4000000 in
theorem s_X10_coins {g : gT} {h : mh_T} {P : Int32 → mh_T → Prop} (l1 : Int32) (l2 : Int32) (hG : GI h)  (hp : ∀ (r : Int32) h', Ok [0] h h' → ¬ mI h' 0 11 = 4 → P r h') : MCi g yX10_coins uX10_coins [.ref 0, .int l1, .int l2] h P := by
  have ok : Ok [0] h h := Ok_rf hG
  refine e_X10_coins l1 l2  ?_
  refine s_X8_hasOutcome l1 l2 ok.1 (fun r2 f_20 im_19 => ?_)
  refine ⟨fun c_21 => ?_, fun c_21 => ?_⟩
  · have f_22 : R 0 0 0 := ⟨by decide, by decide⟩
    have f_23 := (im_19 c_21).1
    have f_24 := (im_19 c_21).2
    have f_25 : R 1 1 r2 := rf_ne_lo f_20 c_21 (by decide) 1 rfl
    have f_28 : R 4 4 4 := ⟨by decide, by decide⟩
    have f_27 : R 0 28 (4 * l1) := R_mul f_28 f_23 0 28 (by decide)
    have f_26 : R 0 31 ((4 * l1) + l2) := R_add f_27 f_24 0 31 (by decide)
    refine ⟨vin f_26 (by decide), ?_⟩
    refine s_X10_told (mI h 27 ((4 * l1) + l2).toNatClampNeg) ok.1 (fun r6 h5 ko_29 tq => ?_)
    have ok_30 := Ok_tr ok ko_29 (by decide)
    have f_31 : R (-2147483648) 2147483647 r6 := R_full _
    exact hp _ _ ok_30 (by first | exact tq | exact tq (by decide) | (rw [mI_wI, if_pos ⟨rfl, rfl⟩]; decide)) 
  · have f_32 : R 0 0 0 := ⟨by decide, by decide⟩
    have f_33 : R 0 0 r2 := rf_eq f_32 c_21
    refine s_X10_refused 1 ok.1 (fun r8 h7 ko_34 f_36 tq => ?_)
    have ok_35 := Ok_tr ok ko_34 (by decide)
    exact hp _ _ ok_35 (by first | exact tq | exact tq (by decide) | (rw [mI_wI, if_pos ⟨rfl, rfl⟩]; decide)) 
set_option maxRecDepth 100000 in
set_option maxHeartbeats 4000000 in
theorem s_X10_size {g : gT} {h : mh_T} {P : Int32 → mh_T → Prop} (l1 : Int32) (hG : GI h)  (hp : ∀ r : Int32, R (-20) 900 r → P r h) : MCi g yX10_size uX10_size [.ref 0, .int l1] h P := by
  have ok : Ok [] h h := Ok_rf hG
  refine e_X10_size l1  ?_
  refine ⟨fun c => ?_, fun c => ?_, fun c => ?_, fun c => ?_, fun c => ?_, fun c => ?_, fun c => ?_, fun c => ?_, fun c => ?_, fun c => ?_, fun c => ?_, fun c => ?_⟩
  · have f_15 : R (-1) (-1) (-1) := ⟨by decide, by decide⟩
    exact hp _ (R_w f_15 (by decide))
  · have f_16 : R 0 6 (mI h 3 1) := GI_rd ok.1 3 _ (by decide)
    exact hp _ (R_w f_16 (by decide))
  · have f_17 : R 0 9 (mI h 7 0) := GI_rd ok.1 7 _ (by decide)
    exact hp _ (R_w f_17 (by decide))
  · have f_18 : R 0 8 (mI h 3 2) := GI_rd ok.1 3 _ (by decide)
    exact hp _ (R_w f_18 (by decide))
  · have f_19 : R 0 8 (mI h 7 1) := GI_rd ok.1 7 _ (by decide)
    exact hp _ (R_w f_19 (by decide))
  · have f_20 : R 0 18 (mI h 8 0) := GI_rd ok.1 8 _ (by decide)
    exact hp _ (R_w f_20 (by decide))
  · have f_21 : R 0 4 (mI h 9 0) := GI_rd ok.1 9 _ (by decide)
    exact hp _ (R_w f_21 (by decide))
  · have f_22 : R 0 60 (mI h 3 0) := GI_rd ok.1 3 _ (by decide)
    exact hp _ (R_w f_22 (by decide))
  · have f_23 : R 0 20 (mI h 10 0) := GI_rd ok.1 10 _ (by decide)
    exact hp _ (R_w f_23 (by decide))
  · have f_25 : R 0 20 (mI h 10 1) := GI_rd ok.1 10 _ (by decide)
    have f_26 : R 0 20 (mI h 10 0) := GI_rd ok.1 10 _ (by decide)
    have f_24 : R (-20) 20 ((mI h 10 1) - (mI h 10 0)) := R_sub f_25 f_26 (-20) 20 (by decide)
    exact hp _ (R_w f_24 (by decide))
  · have f_27 : R 0 4 (mI h 10 2) := GI_rd ok.1 10 _ (by decide)
    exact hp _ (R_w f_27 (by decide))
  · have f_28 : R 0 900 (mI h 0 10) := GI_rd ok.1 0 _ (by decide)
    exact hp _ (R_w f_28 (by decide))
set_option maxRecDepth 100000 in
set_option maxHeartbeats 4000000 in
theorem s_X10_trouble {g : gT} {h : mh_T} {P : Int32 → mh_T → Prop}  (hG : GI h)  (hp : ∀ r : Int32, P r h) : MCi g yX10_trouble uX10_trouble [.ref 0] h P := by
  have ok : Ok [] h h := Ok_rf hG
  refine e_X10_trouble   ?_
  have f_2 : R (-2147483648) 2147483647 (mI h 0 11) := R_full _
  exact hp _ 
set_option maxRecDepth 100000 in
set_option maxHeartbeats 4000000 in
theorem s_X11_good {g : gT} {h : mh_T} {P : mh_T → Prop}  (hG : GI h)  (hp : ∀ h', Ok [300, 11] h h' → ¬ mI h' 11 11 = 4 → P h') : MCv g yX11_good uX11_good [.ref 11] h P := by
  have ok : Ok [300, 11] h h := Ok_rf hG
  refine e_X11_good   ?_
  have f_5 : R 0 0 0 := ⟨by decide, by decide⟩
  have ok_6 := Ok_w ok (k := 11) (j := 0) (v := 0) (lo := (-2147483648)) (hi := 2147483647) (by decide) (R_w f_5 (by decide)) (by decide) (by decide)
  have f_7 : R 0 0 0 := ⟨by decide, by decide⟩
  have ok_8 := Ok_w11 ok_6 (v := 0) (by decide) (by decide)
  exact hp _ ok_8 (by rw [mI_wI, if_pos ⟨rfl, rfl⟩]; decide)
set_option maxRecDepth 100000 in
set_option maxHeartbeats 4000000 in
theorem s_X11_no {g : gT} {h : mh_T} {P : Int32 → mh_T → Prop} (l1 : Int32) (hG : GI h)  (hp : ∀ (r : Int32) h', Ok [300, 11] h h' → R (-1) (-1) r → P r h') (h4 : ¬ l1 = 4 := by decide) : MCi g yX11_no uX11_no [.ref 11, .int l1] h P := by
  have ok : Ok [300, 11] h h := Ok_rf hG
  refine e_X11_no l1  ?_
  have ok_3 := Ok_w11 ok (v := l1) h4 (by decide)
  have f_4 : R (-1) (-1) (-1) := ⟨by decide, by decide⟩
  exact hp _ _ ok_3 (R_w f_4 (by decide))
set_option maxRecDepth 100000 in
set_option maxHeartbeats 4000000 in
theorem s_X11_less {g : gT} {h : mh_T} {P : Int32 → mh_T → Prop} (l1 : Int32) (l2 : Int32) (hG : GI h)  (hp : ∀ (r : Int32) h', Ok [300, 11] h h' → P r h') (h4 : ¬ l1 = 4 := by decide) : MCi g yX11_less uX11_less [.ref 11, .int l1, .int l2] h P := by
  have ok : Ok [300, 11] h h := Ok_rf hG
  refine e_X11_less l1 l2  ?_
  have ok_2 := Ok_w11 ok (v := l1) h4 (by decide)
  exact hp _ _ ok_2 
set_option maxRecDepth 100000 in
set_option maxHeartbeats 4000000 in
theorem s_X11_isNot {g : gT} {h : mh_T} {P : Int32 → mh_T → Prop} (l1 : Int32) (hG : GI h)  (hp : ∀ (r : Int32) h', Ok [300, 11] h h' → R 0 1 r → P r h') (h4 : ¬ l1 = 4 := by decide) : MCi g yX11_isNot uX11_isNot [.ref 11, .int l1] h P := by
  have ok : Ok [300, 11] h h := Ok_rf hG
  refine e_X11_isNot l1  ?_
  have ok_3 := Ok_w11 ok (v := l1) h4 (by decide)
  have f_4 : R 0 0 0 := ⟨by decide, by decide⟩
  exact hp _ _ ok_3 (R_w f_4 (by decide))
set_option maxRecDepth 100000 in
set_option maxHeartbeats 4000000 in
theorem s_X11_within {g : gT} {h : mh_T} {P : Int32 → mh_T → Prop} (l0 : Int32) (l1 : Int32) (l2 : Int32) (hG : GI h)  (hp : ∀ r : Int32, R 0 1 r → (¬ r = 0 → l1 ≤ l0 ∧ l0 ≤ l2) → P r h) : MCi g yX11_within uX11_within [.int l0, .int l1, .int l2] h P := by
  have ok : Ok [] h h := Ok_rf hG
  refine e_X11_within l0 l1 l2  ?_
  refine ⟨fun c_11 => ?_, fun c_11 => ?_⟩
  · have f_12 : R (-2147483648) 2147483646 l0 := rf_lt_l (R_full l0) (R_full l1) c_11 2147483646 (by decide)
    have f_13 : R (-2147483647) 2147483647 l1 := rf_lt_r (R_full l0) (R_full l1) c_11 (-2147483647) (by decide)
    have f_14 : R 0 0 0 := ⟨by decide, by decide⟩
    exact hp _ (R_w f_14 (by decide)) (fun z => absurd rfl z)
  · refine ⟨fun c_15 => ?_, fun c_15 => ?_⟩
    · have f_16 : R (-2147483648) 2147483646 l2 := rf_lt_l (R_full l2) (R_full l0) c_15 2147483646 (by decide)
      have f_17 : R (-2147483647) 2147483647 l0 := rf_lt_r (R_full l2) (R_full l0) c_15 (-2147483647) (by decide)
      have f_18 : R 0 0 0 := ⟨by decide, by decide⟩
      exact hp _ (R_w f_18 (by decide)) (fun z => absurd rfl z)
    · have f_19 : R 1 1 1 := ⟨by decide, by decide⟩
      have f_20 : R 1 1 1 := ⟨by decide, by decide⟩
      exact hp _ (R_w f_19 (by decide)) (fun _ => ⟨(nlt c_11), (nlt c_15)⟩)
set_option maxRecDepth 100000 in
set_option maxHeartbeats 4000000 in
theorem s_X11_has {g : gT} {h : mh_T} {P : Int32 → mh_T → Prop} (l0 : Int32) (l1 : Int32) (hG : GI h)  (hp : ∀ r : Int32, R 0 1 r → P r h) : MCi g yX11_has uX11_has [.int l0, .int l1] h P := by
  have ok : Ok [] h h := Ok_rf hG
  refine e_X11_has l0 l1  ?_
  refine ⟨fun c_12 => ?_, fun c_12 => ?_⟩
  · have f_14 : R 1 1 1 := ⟨by decide, by decide⟩
    have f_13 : R 0 1 ((l0 >>> (l1 &&& 31)) &&& 1) := R_and f_14 (by decide)
    have f_15 : R 1 1 1 := ⟨by decide, by decide⟩
    have f_16 : R 0 0 ((l0 >>> (l1 &&& 31)) &&& 1) := rf_ne_hi f_13 c_12 (by decide) 0 rfl
    have f_17 : R 0 0 0 := ⟨by decide, by decide⟩
    exact hp _ (R_w f_17 (by decide))
  · have f_19 : R 1 1 1 := ⟨by decide, by decide⟩
    have f_18 : R 0 1 ((l0 >>> (l1 &&& 31)) &&& 1) := R_and f_19 (by decide)
    have f_20 : R 1 1 1 := ⟨by decide, by decide⟩
    have f_21 : R 1 1 ((l0 >>> (l1 &&& 31)) &&& 1) := rf_eq f_20 c_12
    have f_22 : R 1 1 1 := ⟨by decide, by decide⟩
    exact hp _ (R_w f_22 (by decide))
set_option maxRecDepth 100000 in
set_option maxHeartbeats 4000000 in
theorem s_X11_bits_L {g : gT} {h0 : mh_T} {P : Int32 → mh_T → Prop} (hG0 : GI h0) (hp : ∀ r : Int32, P r h0) : ∀ n : Nat, (∀ (l0 : Int32) (l1 : Int32) (l2 : Int32), R (-2147483648) 2147483647 l0 → R (-2147483648) 2147483647 l1 → R 0 20 l2 → 1 * gap 20 l2 + 0 < n → ME g uX11_bits 4 [.int l0, .int l1, .int l2] [] h0 (qI P)) := by
  intro n
  induction n with
  | zero =>
    exact (fun _ _ _ _ _ _ hm => absurd hm (Nat.not_lt_zero _))
  | succ n ih =>
    intro l0 l1 l2  fl0 fl1 fl2     hm
    have ok : Ok [] h0 h0 := Ok_rf hG0
    refine r_X11_bits_4 l0 l1 l2  ?_
    refine ⟨fun c_702 => ?_, fun c_702 => ?_⟩
    · have f_703 : R 20 20 20 := ⟨by decide, by decide⟩
      have f_704 : R 20 20 l2 := rf_le_r f_703 fl2 c_702 20 (by decide)
      exact hp _ 
    · have f_705 : R 20 20 20 := ⟨by decide, by decide⟩
      have f_706 : R 0 19 l2 := rf_lt_l fl2 f_705 (nle c_702) 19 (by decide)
      intro x2 ex2
      have f_709 : R 1 1 1 := ⟨by decide, by decide⟩
      have f_708 : R 0 1 ((l0 >>> (l2 &&& 31)) &&& 1) := R_and f_709 (by decide)
      have f_707 : R (-2147483648) 2147483647 (l1 + ((l0 >>> (l2 &&& 31)) &&& 1)) := R_full _
      have f_710 : R (-2147483648) 2147483647 x2 := rf_eq f_707 ex2
      have f_712 : R 1 1 1 := ⟨by decide, by decide⟩
      have f_711 : R 1 20 (l2 + 1) := R_add f_706 f_712 1 20 (by decide)
      have g_713 := gap_inc (N := 20) f_706 (by decide)
      exact ih l0 x2 (l2 + 1)  (R_w fl0 (by decide)) (R_w f_710 (by decide)) (R_w f_711 (by decide)) (by omega)
set_option maxRecDepth 100000 in
set_option maxHeartbeats 4000000 in
theorem s_X11_bits {g : gT} {h : mh_T} {P : Int32 → mh_T → Prop} (l0 : Int32) (hG : GI h)  (hp : ∀ r : Int32, P r h) : MCi g yX11_bits uX11_bits [.int l0] h P := by
  have ok : Ok [] h h := Ok_rf hG
  have L0 := s_X11_bits_L (g := g) hG hp 21
  refine e_X11_bits l0  ?_
  have f_714 : R 0 0 0 := ⟨by decide, by decide⟩
  have f_715 : R 0 0 0 := ⟨by decide, by decide⟩
  have f_716 : R 0 0 0 := ⟨by decide, by decide⟩
  have g_717 := gap_le (N := 20) f_716 (m := 20) (by decide)
  exact L0 l0 0 0  (R_w (R_full l0) (by decide)) (R_w f_714 (by decide)) (R_w f_715 (by decide)) (by omega)
set_option maxRecDepth 100000 in
set_option maxHeartbeats 4000000 in
theorem s_X11_feed_L {g : gT} {h0 : mh_T} {P : Int32 → mh_T → Prop} (l1 l2 l3 l4 l5 : Int32) (hf : R 0 880 (mI h0 11 2)) (hp : ∀ h', OkT [11, 43] h0 h' → (mI h' 11 2).toInt = (mI h0 11 2).toInt + 20 → P (mI h' 11 2) h') : ∀ (n : Nat) (l6 : Int32) (h : mh_T), n ≤ 20 → l6.toInt = 20 - n → OkT [11, 43] h0 h → (mI h 11 2).toInt = (mI h0 11 2).toInt + 20 - n → ME g uX11_feed 23 [.ref 11, .int l1, .int l2, .int l3, .int l4, .int l5, .int l6, .retAddr 0] [] h (qI P) := by
  intro n
  induction n with
  | zero =>
    intro l6 h _ e2 ok ef
    have z : (20 : Int32).toInt = 20 := by decide
    refine r_X11_feed_23 l1 l2 l3 l4 l5 l6 ⟨fun c => hp h ok (by omega), fun c => ?_⟩
    have := lt_ti (nle c)
    omega
  | succ n ih =>
    intro l6 h hn e2 ok ef
    have z : (20 : Int32).toInt = 20 := by decide
    refine r_X11_feed_23 l1 l2 l3 l4 l5 l6 ⟨fun c => ?_, fun c => ?_⟩
    · have := le_ti c
      omega
    · have h1 := hf.1
      have h2 := hf.2
      have ff : R 0 899 (mI h 11 2) := ⟨by omega, by omega⟩
      have f1 : R 1 1 1 := ⟨by decide, by decide⟩
      have es := ti_inc ff (by decide)
      have e6 := ti_inc (x := l6) (a := 0) (b := 20) ⟨by omega, by omega⟩ (by decide)
      have key : ∀ v : Int32, ME g uX11_feed 23 [.ref 11, .int l1, .int l2, .int l3, .int l4, .int l5, .int (l6 + 1), .retAddr 0] [] (wI (wI h 43 (mI h 11 2).toNatClampNeg v) 11 2 ((mI (wI h 43 (mI h 11 2).toNatClampNeg v) 11 2) + 1)) (qI P) := by
        intro v
        have o1 := OkT_w ok (k := 43) (j := (mI h 11 2).toNatClampNeg) (v := v) (rgc_43 _) (R_full _) (by decide)
        have o2 := OkT_w o1 (k := 11) (j := 2) (v := mI h 11 2 + 1) (lo := 0) (hi := 900) (by decide) (R_add ff f1 0 900 (by decide)) (by decide)
        refine ih (l6 + 1) _ (by omega) (by rw [e6]; omega) o2 ?_
        show (mI h 11 2 + 1).toInt = _
        omega
      exact ⟨fun _ => ⟨fun _ => ⟨fun _ => ⟨fun _ => ⟨vin ff (by decide), key _⟩, fun _ => ⟨vin ff (by decide), key _⟩⟩, fun _ => ⟨vin ff (by decide), key _⟩⟩, fun _ => ⟨vin ff (by decide), key _⟩⟩, fun _ => ⟨vin ff (by decide), key _⟩⟩
set_option maxRecDepth 100000 in
theorem s_X11_feed {g : gT} {h : mh_T} {P : Int32 → mh_T → Prop} (l1 l2 l3 l4 l5 : Int32) (hG : GI h) (hp : ∀ r h', OkT [11, 43] h h' → ((mI h 11 2).toInt ≤ 880 → (mI h' 11 2).toInt = (mI h 11 2).toInt + 20 ∧ r = mI h' 11 2) → (¬ (mI h 11 2).toInt ≤ 880 → mI h' 11 2 = mI h 11 2 ∧ r = -1) → P r h') : MCi g yX11_feed uX11_feed [.ref 11, .int l1, .int l2, .int l3, .int l4, .int l5] h P := by
  have f0 : R 0 900 (mI h 11 2) := GI_rd hG 11 2 (by decide)
  have a1 := f0.1
  have a2 := f0.2
  have es : (mI h 11 2 + 20).toInt = (mI h 11 2).toInt + 20 := by rw [Int32.toInt_add, show (20 : Int32).toInt = 20 from by decide, bm (by omega) (by omega)]
  have z9 : (900 : Int32).toInt = 900 := by decide
  have ok : OkT [11, 43] h h := ⟨hG, fun _ _ _ => ⟨rfl, rfl, rfl⟩⟩
  have o1 := OkT_w ok (k := 11) (j := 0) (v := 0) (lo := -2147483648) (hi := 2147483647) (by decide) (R_full _) (by decide)
  refine e_X11_feed l1 l2 l3 l4 l5 ⟨fun c => ?_, fun c => ?_⟩
  · have c : mI h 11 2 + 20 ≤ 900 := c
    have c := le_ti c
    rw [es, z9] at c
    refine s_X11_feed_L (h0 := wI h 11 0 0) l1 l2 l3 l4 l5 (show R 0 880 (mI h 11 2) from ⟨a1, by omega⟩) (fun h' k e => ?_) 20 0 _ (by decide) (by decide) ⟨o1.1, fun _ _ _ => ⟨rfl, rfl, rfl⟩⟩ (by omega)
    have e : (mI h' 11 2).toInt = (mI h 11 2).toInt + 20 := e
    exact hp _ _ (OkT_tr o1 k) (fun _ => ⟨e, rfl⟩) (fun z => absurd (by omega) z)
  · have c : ¬ mI h 11 2 + 20 ≤ 900 := c
    have c := lt_ti (nle c)
    rw [es, z9] at c
    exact hp _ _ o1 (fun z => by omega) (fun _ => ⟨rfl, rfl⟩)
set_option maxRecDepth 100000 in
set_option maxHeartbeats 4000000 in
theorem s_X11_see {g : gT} {h : mh_T} {P : Int32 → mh_T → Prop} (l1 : Int32) (hG : GI h) (fl1 : R 0 900 l1) (hp : ∀ r : Int32, P r h) : MCi g yX11_see uX11_see [.ref 11, .int l1] h P := by
  have ok : Ok [] h h := Ok_rf hG
  refine e_X11_see l1  ?_
  refine ⟨fun c_8 => ?_, fun c_8 => ?_⟩
  · have f_9 : R 0 900 (mI h 11 3) := GI_rd ok.1 11 _ (by decide)
    have f_10 : R (-1) (-1) (-1) := ⟨by decide, by decide⟩
    exact hp _ 
  · have f_11 : R 0 900 (mI h 11 3) := GI_rd ok.1 11 _ (by decide)
    have f_12 : R 0 899 l1 := rf_lt_l fl1 f_11 (nle c_8) 899 (by decide)
    have f_13 : R 1 900 (mI h 11 3) := rf_lt_r fl1 f_11 (nle c_8) 1 (by decide)
    refine ⟨vin f_12 (by decide), ?_⟩
    have f_14 : R (-2147483648) 2147483647 (mI h 43 l1.toNatClampNeg) := R_full _
    exact hp _ 
set_option maxRecDepth 100000 in
set_option maxHeartbeats 4000000 in
theorem s_X11_isSmall {g : gT} {h : mh_T} {P : Int32 → mh_T → Prop} (l0 : Int32) (hG : GI h)  (hp : ∀ r : Int32, R 0 1 r → P r h) : MCi g yX11_isSmall uX11_isSmall [.int l0] h P := by
  have ok : Ok [] h h := Ok_rf hG
  refine e_X11_isSmall l0  ?_
  refine ⟨fun c_14 => ?_, fun c_14 => ?_⟩
  · have f_15 : R 97 97 97 := ⟨by decide, by decide⟩
    have f_16 : R (-2147483648) 96 l0 := rf_lt_l (R_full l0) f_15 c_14 96 (by decide)
    have f_17 : R 0 0 0 := ⟨by decide, by decide⟩
    exact hp _ (R_w f_17 (by decide))
  · have f_18 : R 97 97 97 := ⟨by decide, by decide⟩
    have f_19 : R 97 2147483647 l0 := rf_le_r f_18 (R_full l0) (nlt c_14) 97 (by decide)
    refine ⟨fun c_20 => ?_, fun c_20 => ?_⟩
    · have f_21 : R 122 122 122 := ⟨by decide, by decide⟩
      have f_22 : R 123 2147483647 l0 := rf_lt_r f_21 f_19 c_20 123 (by decide)
      have f_23 : R 0 0 0 := ⟨by decide, by decide⟩
      exact hp _ (R_w f_23 (by decide))
    · have f_24 : R 122 122 122 := ⟨by decide, by decide⟩
      have f_25 : R 97 122 l0 := rf_le_l f_19 f_24 (nlt c_20) 122 (by decide)
      have f_26 : R 1 1 1 := ⟨by decide, by decide⟩
      exact hp _ (R_w f_26 (by decide))
set_option maxRecDepth 100000 in
set_option maxHeartbeats 4000000 in
theorem s_X11_isDigit {g : gT} {h : mh_T} {P : Int32 → mh_T → Prop} (l0 : Int32) (hG : GI h)  (hp : ∀ r : Int32, R 0 1 r → P r h) : MCi g yX11_isDigit uX11_isDigit [.int l0] h P := by
  have ok : Ok [] h h := Ok_rf hG
  refine e_X11_isDigit l0  ?_
  refine ⟨fun c_14 => ?_, fun c_14 => ?_⟩
  · have f_15 : R 48 48 48 := ⟨by decide, by decide⟩
    have f_16 : R (-2147483648) 47 l0 := rf_lt_l (R_full l0) f_15 c_14 47 (by decide)
    have f_17 : R 0 0 0 := ⟨by decide, by decide⟩
    exact hp _ (R_w f_17 (by decide))
  · have f_18 : R 48 48 48 := ⟨by decide, by decide⟩
    have f_19 : R 48 2147483647 l0 := rf_le_r f_18 (R_full l0) (nlt c_14) 48 (by decide)
    refine ⟨fun c_20 => ?_, fun c_20 => ?_⟩
    · have f_21 : R 57 57 57 := ⟨by decide, by decide⟩
      have f_22 : R 58 2147483647 l0 := rf_lt_r f_21 f_19 c_20 58 (by decide)
      have f_23 : R 0 0 0 := ⟨by decide, by decide⟩
      exact hp _ (R_w f_23 (by decide))
    · have f_24 : R 57 57 57 := ⟨by decide, by decide⟩
      have f_25 : R 48 57 l0 := rf_le_l f_19 f_24 (nlt c_20) 57 (by decide)
      have f_26 : R 1 1 1 := ⟨by decide, by decide⟩
      exact hp _ (R_w f_26 (by decide))
set_option maxRecDepth 100000 in
theorem s_X11_isWord_L {g : gT} {h : mh_T} {P : Int32 → mh_T → Prop} (l1 : Nat) (sl1 : l1 < nJS) (hs : (mI h 11 8).toInt = lenJS.getD l1 0) (hp : ∀ r : Int32, R 0 1 r → P r h) : ∀ (n : Nat) (l2 l3 : Int32), R 0 1 l2 → R 0 5 l3 → gap 5 l3 < n → ME g uX11_isWord 32 [.ref 11, .ref (1000 + l1), .int l2, .int l3] [] h (qI P) := by
  intro n
  induction n with
  | zero => intro l2 l3 _ _ hn; exact absurd hn (Nat.not_lt_zero _)
  | succ n ih =>
    intro l2 l3 f2 f3 hn
    obtain ⟨_, h1, h2⟩ := js_len l1 sl1
    refine r_X11_isWord_32 l1 l2 l3 sl1 ⟨fun _ => ⟨R_z f2, hp _ f2⟩, fun c => ?_⟩
    have c := lt_ti (nle c)
    have g3 : R 0 4 l3 := ⟨f3.1, by omega⟩
    have gi := gap_inc (N := 5) g3 (by decide)
    have f1 : R 1 1 1 := ⟨by decide, by decide⟩
    have nx : ∀ v : Int32, R 0 1 v → ME g uX11_isWord 32 [.ref 11, .ref (1000 + l1), .int v, .int (l3 + 1)] [] h (qI P) := fun v fv => ih v (l3 + 1) fv (R_add g3 f1 0 5 (by decide)) (by omega)
    refine ⟨fun _ => nx 0 ⟨by decide, by decide⟩, fun _ => ⟨vin g3 (by decide), ?_⟩⟩
    exact s_J0_charAt l1 l3 sl1 ⟨f3.1, by omega⟩ ⟨fun _ => nx 0 ⟨by decide, by decide⟩, fun _ => nx 1 ⟨by decide, by decide⟩⟩
theorem s_X11_isWord {g : gT} {h : mh_T} {P : Int32 → mh_T → Prop} (l1 : Nat) (sl1 : l1 < nJS) (hG : GI h) (hp : ∀ r : Int32, R 0 1 r → P r h) : MCi g yX11_isWord uX11_isWord [.ref 11, .ref (1000 + l1)] h P := by
  refine e_X11_isWord l1 sl1 ⟨fun _ => hp 0 ⟨by decide, by decide⟩, fun _ => ⟨fun _ => hp 0 ⟨by decide, by decide⟩, fun _ => ?_⟩⟩
  refine s_J0_length l1 sl1 (fun r er fr => ⟨fun c => ?_, fun _ => hp 0 ⟨by decide, by decide⟩⟩)
  exact s_X11_isWord_L l1 sl1 (by rw [c]; exact er) hp 6 1 0 ⟨by decide, by decide⟩ ⟨by decide, by decide⟩ (by decide)
set_option maxRecDepth 100000 in
theorem s_X11_find_L {g : gT} {h : mh_T} {P : Int32 → mh_T → Prop} (hG : GI h) (hp : ∀ r : Int32, R (-1) 14 r → P r h) : ∀ n : Nat, (∀ l1 : Int32, R 0 15 l1 → 10 * gap 15 l1 + 9 < n → ME g uX11_find 2 [.ref 11, .int l1, .retAddr 0, .retAddr 0] [] h (qI P)) ∧ (∀ l1 l2 l3 : Int32, R 0 14 l1 → R 0 8 l3 → (¬ l2 = 0 → (mI h 11 8).toInt ≤ 8) → 10 * gap 15 l1 + gap 8 l3 < n → ME g uX11_find 46 [.ref 11, .int l1, .int l2, .int l3] [] h (qI P)) := by
  intro n
  induction n with
  | zero => exact ⟨fun _ _ hn => absurd hn (Nat.not_lt_zero _), fun _ _ _ _ _ _ hn => absurd hn (Nat.not_lt_zero _)⟩
  | succ n ih =>
    have c1 : R 1 1 1 := ⟨by decide, by decide⟩
    have c8 : R 8 8 8 := ⟨by decide, by decide⟩
    have c15 : R 15 15 15 := ⟨by decide, by decide⟩
    have c211 : R 211 211 211 := ⟨by decide, by decide⟩
    have c226 : R 226 226 226 := ⟨by decide, by decide⟩
    have c0 : R 0 8 0 := ⟨by decide, by decide⟩
    have g0 := gap_le (N := 8) c0 (m := 8) (by decide)
    refine ⟨fun l1 f1 hn => ?_, fun l1 l2 l3 f1 f3 hs hn => ?_⟩
    · refine r_X11_find_2 l1 ⟨fun _ => hp (-1) ⟨by decide, by decide⟩, fun c => ?_⟩
      have g1 : R 0 14 l1 := rf_lt_l f1 c15 (nle c) 14 (by decide)
      have fx : R 211 225 (211 + l1) := R_add c211 g1 211 225 (by decide)
      have fs : R 0 8 (mI h 46 (211 + l1).toNatClampNeg) := GI_rd hG 46 _ (rgp_46_14 (ix_ge fx (by decide)) (ix_le fx (by decide)))
      refine ⟨vin fx (by decide), fun _ => ?_, fun _ => ⟨vin fx (by decide), fun _ => ?_, fun e => ?_⟩⟩
      · exact ih.2 l1 0 0 g1 c0 (fun z => absurd rfl z) (by omega)
      · exact ih.2 l1 0 0 g1 c0 (fun z => absurd rfl z) (by omega)
      · exact ih.2 l1 1 0 g1 c0 (fun _ => by rw [← e]; exact fs.2) (by omega)
    · have gi := gap_inc (N := 15) f1 (by decide)
      have on : ME g uX11_find 2 [.ref 11, .int (l1 + 1), .retAddr 0, .retAddr 0] [] h (qI P) := ih.1 (l1 + 1) (R_add f1 c1 0 15 (by decide)) (by omega)
      refine r_X11_find_46 l1 l2 l3 ⟨fun _ => ⟨fun _ => on, fun _ => hp _ (R_w f1 (by decide))⟩, fun c => ⟨fun z => ⟨fun _ => on, fun y => absurd z y⟩, fun z => ?_⟩⟩
      have hs := hs z
      have c := lt_ti (nle c)
      have g3 : R 0 7 l3 := ⟨f3.1, by omega⟩
      have gj := gap_inc (N := 8) g3 (by decide)
      have fy : R 226 345 ((226 + (8 * l1)) + l3) := R_add (R_add c226 (R_mul c8 f1 0 112 (by decide)) 226 338 (by decide)) g3 226 345 (by decide)
      refine ⟨vin fy (by decide), vin g3 (by decide), fun _ => ?_, fun _ => ?_⟩
      · exact ih.2 l1 0 (l3 + 1) f1 (R_add g3 c1 0 8 (by decide)) (fun z => absurd rfl z) (by omega)
      · exact ih.2 l1 1 (l3 + 1) f1 (R_add g3 c1 0 8 (by decide)) (fun _ => hs) (by omega)
theorem s_X11_find {g : gT} {h : mh_T} {P : Int32 → mh_T → Prop} (hG : GI h) (hp : ∀ r : Int32, R (-1) 14 r → P r h) : MCi g yX11_find uX11_find [.ref 11] h P :=
  e_X11_find ((s_X11_find_L hG hp 200).1 0 ⟨by decide, by decide⟩ (by decide))
theorem R_lit {a : Int} {x : Int32} (f : R a a x) (y : Int32) (h : y.toInt = a) : x = y := by
  apply Int32.toInt_inj.mp
  have := f.1
  have := f.2
  omega
