set_option maxRecDepth 100000 in
set_option maxHeartbeats 4000000 in
theorem s_X3_work_L {g : gT} {h0 : mh_T} {P : mh_T → Prop} (hG0 : GI h0) (hp : ∀ h', Ok [8] h0 h' → P h') : ∀ n : Nat, (∀ (l1 : Int32) (l2 : Int32) (h : mh_T), Ok [8] h0 h → R 0 262143 l1 → R 0 18 l2 → 1 * gap 18 l2 + 0 < n → ME g uX3_work 51 [.ref 8, .int l1, .int l2] [] h (qV P)) := by
  intro n
  induction n with
  | zero =>
    exact (fun _ _ _ _ _ _ hm => absurd hm (Nat.not_lt_zero _))
  | succ n ih =>
    intro l1 l2 h  ok fl1 fl2     hm
    refine r_X3_work_51 l1 l2  ?_
    refine ⟨fun c_994 => ?_, fun c_994 => ?_⟩
    · have f_995 : R (-2147483648) 2147483647 (mI h 8 2) := R_full _
      have f_996 : R 0 0 0 := ⟨by decide, by decide⟩
      exact hp _ ok
    · have f_997 : R (-2147483648) 2147483647 (mI h 8 2) := R_full _
      have f_998 : R 0 0 0 := ⟨by decide, by decide⟩
      have f_999 : R 0 0 (mI h 8 2) := rf_eq f_998 c_994
      refine ⟨fun c_1000 => ?_, fun c_1000 => ?_⟩
      · have f_1001 : R 0 18 (mI h 8 0) := GI_rd ok.1 8 _ (by decide)
        exact hp _ ok
      · have f_1002 : R 0 18 (mI h 8 0) := GI_rd ok.1 8 _ (by decide)
        have f_1003 : R 0 17 l2 := rf_lt_l fl2 f_1002 (nle c_1000) 17 (by decide)
        have f_1004 : R 1 18 (mI h 8 0) := rf_lt_r fl2 f_1002 (nle c_1000) 1 (by decide)
        refine s_X3_countColours (l1 &&& ((1 <<< (l2 &&& 31)) ^^^ (-1))) ok.1 (fun r4 h3 ko_1005 => ?_)
        have ok_1006 := Ok_tr ok ko_1005 (by decide)
        refine ⟨fun c_1007 => ?_, fun c_1007 => ?_⟩
        · have f_1008 : R (-2147483648) 2147483647 r4 := R_full _
          have f_1009 : R 0 0 0 := ⟨by decide, by decide⟩
          refine s_X3_countColours ((mI h3 8 5) &&& ((1 <<< (l2 &&& 31)) ^^^ (-1))) ok_1006.1 (fun r7 h6 ko_1010 => ?_)
          have ok_1011 := Ok_tr ok_1006 ko_1010 (by decide)
          refine ⟨fun c_1012 => ?_, fun c_1012 => ?_⟩
          · have f_1013 : R (-2147483648) 2147483647 r7 := R_full _
            have f_1014 : R 0 0 0 := ⟨by decide, by decide⟩
            have f_1016 : R 1 1 1 := ⟨by decide, by decide⟩
            have f_1015 : R 1 18 (l2 + 1) := R_add f_1003 f_1016 1 18 (by decide)
            have g_1017 := gap_inc (N := 18) f_1003 (by decide)
            exact ih l1 (l2 + 1) h6  ok_1011 (R_w fl1 (by decide)) (R_w f_1015 (by decide)) (by omega)
          · have f_1018 : R (-2147483648) 2147483647 r7 := R_full _
            have f_1019 : R 0 0 0 := ⟨by decide, by decide⟩
            have f_1020 : R 0 0 r7 := rf_eq f_1019 c_1012
            have f_1022 : R 1 1 1 := ⟨by decide, by decide⟩
            have f_1021 : R 1 18 (l2 + 1) := R_add f_1003 f_1022 1 18 (by decide)
            have f_1025 : R 1 131072 (1 <<< (l2 &&& 31)) := R_shl f_1003 1 131072 0 17 (by decide)
            have f_1026 : R (-1) (-1) (-1) := ⟨by decide, by decide⟩
            have f_1024 : R (-2147483648) 2147483647 ((1 <<< (l2 &&& 31)) ^^^ (-1)) := R_full _
            have f_1027 : R (-2147483648) 2147483647 (mI h6 8 5) := R_full _
            have f_1023 : R (-2147483648) 2147483647 ((mI h6 8 5) &&& ((1 <<< (l2 &&& 31)) ^^^ (-1))) := R_full _
            have ok_1028 := Ok_w ok_1011 (k := 8) (j := 5) (v := ((mI h6 8 5) &&& ((1 <<< (l2 &&& 31)) ^^^ (-1)))) (lo := (-2147483648)) (hi := 2147483647) (by decide) f_1023 (by decide) (by decide)
            have g_1029 := gap_inc (N := 18) f_1003 (by decide)
            exact ih l1 (l2 + 1) (wI h6 8 5 ((mI h6 8 5) &&& ((1 <<< (l2 &&& 31)) ^^^ (-1))))  ok_1028 (R_w fl1 (by decide)) (R_w f_1021 (by decide)) (by omega)
        · have f_1030 : R (-2147483648) 2147483647 r4 := R_full _
          have f_1031 : R 0 0 0 := ⟨by decide, by decide⟩
          have f_1032 : R 0 0 r4 := rf_eq f_1031 c_1007
          have f_1034 : R (-2147483648) 2147483647 (mI h3 8 4) := R_full _
          have f_1035 : R 1 131072 (1 <<< (l2 &&& 31)) := R_shl f_1003 1 131072 0 17 (by decide)
          have f_1033 : R (-2147483648) 2147483647 ((mI h3 8 4) ||| (1 <<< (l2 &&& 31))) := R_full _
          have ok_1036 := Ok_w ok_1006 (k := 8) (j := 4) (v := ((mI h3 8 4) ||| (1 <<< (l2 &&& 31)))) (lo := (-2147483648)) (hi := 2147483647) (by decide) f_1033 (by decide) (by decide)
          refine s_X3_countColours ((mI (wI h3 8 4 ((mI h3 8 4) ||| (1 <<< (l2 &&& 31)))) 8 5) &&& ((1 <<< (l2 &&& 31)) ^^^ (-1))) ok_1036.1 (fun r10 h9 ko_1037 => ?_)
          have ok_1038 := Ok_tr ok_1036 ko_1037 (by decide)
          refine ⟨fun c_1039 => ?_, fun c_1039 => ?_⟩
          · have f_1040 : R (-2147483648) 2147483647 r10 := R_full _
            have f_1041 : R 0 0 0 := ⟨by decide, by decide⟩
            have f_1043 : R 1 1 1 := ⟨by decide, by decide⟩
            have f_1042 : R 1 18 (l2 + 1) := R_add f_1003 f_1043 1 18 (by decide)
            have g_1044 := gap_inc (N := 18) f_1003 (by decide)
            exact ih l1 (l2 + 1) h9  ok_1038 (R_w fl1 (by decide)) (R_w f_1042 (by decide)) (by omega)
          · have f_1045 : R (-2147483648) 2147483647 r10 := R_full _
            have f_1046 : R 0 0 0 := ⟨by decide, by decide⟩
            have f_1047 : R 0 0 r10 := rf_eq f_1046 c_1039
            have f_1049 : R 1 1 1 := ⟨by decide, by decide⟩
            have f_1048 : R 1 18 (l2 + 1) := R_add f_1003 f_1049 1 18 (by decide)
            have f_1052 : R (-1) (-1) (-1) := ⟨by decide, by decide⟩
            have f_1051 : R (-2147483648) 2147483647 ((1 <<< (l2 &&& 31)) ^^^ (-1)) := R_full _
            have f_1053 : R (-2147483648) 2147483647 (mI h9 8 5) := R_full _
            have f_1050 : R (-2147483648) 2147483647 ((mI h9 8 5) &&& ((1 <<< (l2 &&& 31)) ^^^ (-1))) := R_full _
            have ok_1054 := Ok_w ok_1038 (k := 8) (j := 5) (v := ((mI h9 8 5) &&& ((1 <<< (l2 &&& 31)) ^^^ (-1)))) (lo := (-2147483648)) (hi := 2147483647) (by decide) f_1050 (by decide) (by decide)
            have g_1055 := gap_inc (N := 18) f_1003 (by decide)
            exact ih l1 (l2 + 1) (wI h9 8 5 ((mI h9 8 5) &&& ((1 <<< (l2 &&& 31)) ^^^ (-1))))  ok_1054 (R_w fl1 (by decide)) (R_w f_1048 (by decide)) (by omega)
set_option maxRecDepth 100000 in
set_option maxHeartbeats 4000000 in
theorem s_X3_work {g : gT} {h : mh_T} {P : mh_T → Prop}  (hG : GI h)  (hp : ∀ h', Ok [8] h h' → P h') : MCv g yX3_work uX3_work [.ref 8] h P := by
  have ok : Ok [8] h h := Ok_rf hG
  have L0 := s_X3_work_L (g := g) hG hp 19
  refine e_X3_work   ?_
  refine ⟨fun c_1056 => ?_, fun c_1056 => ?_⟩
  · have f_1057 : R 0 1 (mI h 8 8) := GI_rd ok.1 8 _ (by decide)
    have f_1058 : R 0 0 0 := ⟨by decide, by decide⟩
    have f_1059 : R 0 0 (mI h 8 8) := rf_eq f_1058 c_1056
    intro x2 ex2
    have f_1063 : R 0 18 (mI h 8 0) := GI_rd ok.1 8 _ (by decide)
    have f_1062 : R 0 18 (mI (wI h 8 8 1) 8 0) := (rd_nj f_1063 (by decide))
    have f_1061 : R 1 262144 (1 <<< ((mI (wI h 8 8 1) 8 0) &&& 31)) := R_shl f_1062 1 262144 0 18 (by decide)
    have f_1064 : R 1 1 1 := ⟨by decide, by decide⟩
    have f_1060 : R 0 262143 ((1 <<< ((mI (wI h 8 8 1) 8 0) &&& 31)) - 1) := R_sub f_1061 f_1064 0 262143 (by decide)
    have f_1065 : R 0 262143 x2 := rf_eq f_1060 ex2
    have f_1066 : R 1 1 1 := ⟨by decide, by decide⟩
    have ok_1067 := Ok_w ok (k := 8) (j := 8) (v := 1) (lo := 0) (hi := 1) (by decide) (R_w f_1066 (by decide)) (by decide) (by decide)
    refine s_X3_countColours x2 ok_1067.1 (fun r4 h3 ko_1068 => ?_)
    have ok_1069 := Ok_tr ok_1067 ko_1068 (by decide)
    have f_1070 : R 0 0 0 := ⟨by decide, by decide⟩
    have f_1071 : R (-2147483648) 2147483647 r4 := R_full _
    have ok_1072 := Ok_w ok_1069 (k := 8) (j := 2) (v := r4) (lo := (-2147483648)) (hi := 2147483647) (by decide) f_1071 (by decide) (by decide)
    have f_1074 : R (-2147483648) 2147483647 (mI h3 8 11) := R_full _
    have f_1073 : R (-2147483648) 2147483647 (mI (wI h3 8 2 r4) 8 11) := (rd_nj f_1074 (by decide))
    have ok_1075 := Ok_w ok_1072 (k := 8) (j := 3) (v := (mI (wI h3 8 2 r4) 8 11)) (lo := (-2147483648)) (hi := 2147483647) (by decide) f_1073 (by decide) (by decide)
    have f_1076 : R 0 0 0 := ⟨by decide, by decide⟩
    have ok_1077 := Ok_w ok_1075 (k := 8) (j := 4) (v := 0) (lo := (-2147483648)) (hi := 2147483647) (by decide) (R_w f_1076 (by decide)) (by decide) (by decide)
    have ok_1078 := Ok_w ok_1077 (k := 8) (j := 5) (v := x2) (lo := (-2147483648)) (hi := 2147483647) (by decide) (R_w f_1065 (by decide)) (by decide) (by decide)
    have f_1079 : R 0 0 0 := ⟨by decide, by decide⟩
    have g_1080 := gap_le (N := 18) f_1079 (m := 18) (by decide)
    exact L0 x2 0 (wI (wI (wI (wI h3 8 2 r4) 8 3 (mI (wI h3 8 2 r4) 8 11)) 8 4 0) 8 5 x2)  ok_1078 (R_w f_1065 (by decide)) (R_w f_1070 (by decide)) (by omega)
  · have f_1081 : R 0 1 (mI h 8 8) := GI_rd ok.1 8 _ (by decide)
    have f_1082 : R 0 0 0 := ⟨by decide, by decide⟩
    have f_1083 : R 1 1 (mI h 8 8) := rf_ne_lo f_1081 c_1056 (by decide) 1 rfl
    exact hp _ ok
set_option maxRecDepth 100000 in
set_option maxHeartbeats 4000000 in
theorem s_X4_open {g : gT} {h : mh_T} {P : mh_T → Prop}  (hG : GI h)  (hp : ∀ h', Ok [10, 302] h h' → P h') : MCv g yX4_open uX4_open [.ref 10] h P := by
  have ok : Ok [10, 302] h h := Ok_rf hG
  refine e_X4_open   ?_
  have f_7 : R 0 0 0 := ⟨by decide, by decide⟩
  have ok_8 := Ok_w ok (k := 10) (j := 0) (v := 0) (lo := 0) (hi := 20) (by decide) (R_w f_7 (by decide)) (by decide) (by decide)
  have f_9 : R 0 0 0 := ⟨by decide, by decide⟩
  have ok_10 := Ok_w ok_8 (k := 10) (j := 1) (v := 0) (lo := 0) (hi := 20) (by decide) (R_w f_9 (by decide)) (by decide) (by decide)
  have f_11 : R 0 0 0 := ⟨by decide, by decide⟩
  have ok_12 := Ok_w ok_10 (k := 10) (j := 2) (v := 0) (lo := 0) (hi := 4) (by decide) (R_w f_11 (by decide)) (by decide) (by decide)
  exact hp _ ok_12
set_option maxRecDepth 100000 in
theorem s_X4_leaveOldest_L {g : gT} {h0 : mh_T} {P : mh_T → Prop} (hp : ∀ h', Ok [10, 40, 41, 302] h0 h' → mI h' 10 0 = 19 → P h') : ∀ n : Nat, (∀ (l1 l2 : Nat) (l3 : Int32) (h : mh_T), shp l1 = (20, 5, []) → shp l2 = (20, 49, []) ∧ 116 ≤ l2 → Ok [10, 40, 41, 302] h0 h → R 0 19 l3 → gap 19 l3 < n → ME g uX4_leaveOldest 16 [.ref 10, .ref l1, .ref l2, .int l3] [] h (qV P)) := by
  intro n
  induction n with
  | zero => exact fun _ _ _ _ _ _ _ _ hm => absurd hm (Nat.not_lt_zero _)
  | succ n ih =>
    intro l1 l2 l3 h s1 s2 ok f3 hm
    refine r_X4_leaveOldest_16 l1 l2 l3 s1 s2.1 ?_
    have f19 : R 19 19 19 := ⟨by decide, by decide⟩
    refine ⟨fun c => ?_, fun c => ?_⟩
    · have o1 := Ok_wRa ok (j := Int32.toNatClampNeg 19) (v := l1) s1 (by decide)
      have o2 := Ok_wRr o1 (j := Int32.toNatClampNeg 19) (v := l2) s2 (by decide)
      exact hp _ (Ok_w o2 (k := 10) (j := 0) (lo := 0) (hi := 20) (by decide) (R_w f19 (by decide)) (by decide) (by decide)) rfl
    · have g3 : R 0 18 l3 := rf_lt_l f3 f19 (nle c) 18 (by decide)
      have f1 : R 1 1 1 := ⟨by decide, by decide⟩
      have g4 : R 1 19 (l3 + 1) := R_add g3 f1 1 19 (by decide)
      have sA := ok.1.2.1 _ (ix_lt g4 (n := 20) (by decide))
      have o1 := Ok_wRa ok (j := l3.toNatClampNeg) (v := mR h 40 (l3 + 1).toNatClampNeg) sA (by decide)
      have sB := o1.1.2.2 _ (ix_lt g4 (n := 21) (by decide))
      have o2 := Ok_wRr o1 (j := l3.toNatClampNeg) (v := mR (wR h 40 l3.toNatClampNeg (mR h 40 (l3 + 1).toNatClampNeg)) 41 (l3 + 1).toNatClampNeg) sB (by decide)
      refine ⟨vin g4 (by decide), sA, vin g3 (by decide), vin g4 (by decide), sB.1, vin g3 (by decide), ?_⟩
      have := gap_inc (N := 19) g3 (by decide)
      exact ih l1 l2 (l3 + 1) _ s1 s2 o2 (R_w g4 (by decide)) (by omega)
set_option maxRecDepth 100000 in
theorem s_X4_leaveOldest {g : gT} {h : mh_T} {P : mh_T → Prop} (hG : GI h) (hp : ∀ h', Ok [10, 40, 41, 302] h h' → mI h' 10 0 = 19 → P h') : MCv g yX4_leaveOldest uX4_leaveOldest [.ref 10] h P := by
  refine e_X4_leaveOldest ⟨hG.2.1 _ (by decide), (hG.2.2 _ (by decide)).1, ?_⟩
  exact s_X4_leaveOldest_L hp 20 _ _ 0 h (hG.2.1 _ (by decide)) (hG.2.2 _ (by decide)) (Ok_rf hG) ⟨by decide, by decide⟩ (by decide)
set_option maxRecDepth 100000 in
theorem s_X8_save {g : gT} {h : mh_T} {P : mh_T → Prop} (l1 : Nat) (sl1 : shp l1 = (20, 49, [])) (hn : 116 ≤ l1) (hG : GI h) (hp : ∀ h', Ok [302] h h' → P h') : MCv g yX8_save uX8_save [.ref 3, .ref l1] h P := by
  have hk := shp_lt sl1 (by decide)
  have ok : Ok [302] h h := Ok_rf hG
  have f0 : R 0 8 (mI h 3 2) := GI_rd hG 3 2 (by decide)
  have o1 : Ok [302] h (wI h l1 0 (mI h 3 2)) := Ok_w ok (lo := 0) (hi := 8) (by rw [rg_row hn hk]; decide) f0 (Or.inr ⟨by omega, by decide⟩) (by omega)
  have o2 := Ok_cp o1 (k0 := 24) (sp := 0) (k1 := l1) (dp := 1) (n := 8) (rowcp hn hk (by decide)) (Or.inr ⟨by omega, by decide⟩) (by omega)
  have o3 := Ok_cp o2 (k0 := 25) (sp := 0) (k1 := l1) (dp := 9) (n := 8) (rowcp hn hk (by decide)) (Or.inr ⟨by omega, by decide⟩) (by omega)
  have o4 := Ok_cp o3 (k0 := 26) (sp := 0) (k1 := l1) (dp := 17) (n := 32) (rowcp hn hk (by decide)) (Or.inr ⟨by omega, by decide⟩) (by omega)
  refine e_X8_save l1 sl1 ⟨by unfold vp_in; decide, ?_⟩
  exact hp _ o4
set_option maxRecDepth 100000 in
set_option maxHeartbeats 4000000 in
theorem s_X4_begin {g : gT} {h : mh_T} {P : mh_T → Prop} (l1 : Int32) (l2 : Int32) (hG : GI h)  (hp : ∀ h', Ok [10, 40, 41, 302] h h' → P h') : MCv g yX4_begin uX4_begin [.ref 10, .int l1, .int l2] h P := by
  have ok : Ok [10, 40, 41, 302] h h := Ok_rf hG
  refine e_X4_begin l1 l2  ?_
  refine ⟨fun c_67 => ?_, fun c_67 => ?_⟩
  · have f_68 : R 0 20 (mI h 10 0) := GI_rd ok.1 10 _ (by decide)
    have f_69 : R 20 20 20 := ⟨by decide, by decide⟩
    have f_70 : R 0 19 (mI h 10 0) := rf_lt_l f_68 f_69 c_67 19 (by decide)
    have f_71 : R 20 20 20 := ⟨by decide, by decide⟩
    refine ⟨vin f_70 (by decide), ?_⟩
    refine ⟨(ok.1.2.2 _ (ix_lt f_70 (by decide))).1, ?_⟩
    refine s_X8_save (mR h 41 (mI h 10 0).toNatClampNeg) (ok.1.2.2 _ (ix_lt f_70 (by decide))).1 (ok.1.2.2 _ (ix_lt f_70 (by decide))).2 ok.1 (fun h4 ko_72 => ?_)
    have ok_73 := Ok_tr ok ko_72 (by decide)
    have f_75 : R 20 20 20 := ⟨by decide, by decide⟩
    have f_74 : R 0 19 (mI h4 10 0) := Ok_rd ko_72 (by decide) f_70
    refine ⟨vin f_74 (by decide), ?_⟩
    refine ⟨(ok_73.1.2.1 _ (ix_lt f_74 (by decide))), ?_⟩
    have f_76 : R 0 0 0 := ⟨by decide, by decide⟩
    refine ⟨vin f_76 (by decide), ?_⟩
    have f_77 : R 1 1 1 := ⟨by decide, by decide⟩
    refine ⟨vin f_77 (by decide), ?_⟩
    have f_78 : R 2 2 2 := ⟨by decide, by decide⟩
    refine ⟨vin f_78 (by decide), ?_⟩
    have f_79 : R 3 3 3 := ⟨by decide, by decide⟩
    refine ⟨vin f_79 (by decide), ?_⟩
    have f_80 : R 4 4 4 := ⟨by decide, by decide⟩
    refine ⟨vin f_80 (by decide), ?_⟩
    have ok_81 := Ok_w ok_73 (k := (mR h4 40 (mI h4 10 0).toNatClampNeg)) (j := (Int32.toNatClampNeg 0)) (v := l1) (rg_5 (ok_73.1.2.1 _ (ix_lt f_74 (by decide))) _) (R_full _) (Or.inr ⟨ge_5 (ok_73.1.2.1 _ (ix_lt f_74 (by decide))), by decide⟩) (nt_5 (ok_73.1.2.1 _ (ix_lt f_74 (by decide))))
    have ok_82 := Ok_w ok_81 (k := (mR h4 40 (mI h4 10 0).toNatClampNeg)) (j := (Int32.toNatClampNeg 1)) (v := l2) (rg_5 (ok_73.1.2.1 _ (ix_lt f_74 (by decide))) _) (R_full _) (Or.inr ⟨ge_5 (ok_73.1.2.1 _ (ix_lt f_74 (by decide))), by decide⟩) (nt_5 (ok_73.1.2.1 _ (ix_lt f_74 (by decide))))
    have f_83 : R (-2) (-2) (-2) := ⟨by decide, by decide⟩
    have ok_84 := Ok_w ok_82 (k := (mR h4 40 (mI h4 10 0).toNatClampNeg)) (j := (Int32.toNatClampNeg 2)) (v := (-2)) (rg_5 (ok_73.1.2.1 _ (ix_lt f_74 (by decide))) _) (R_full _) (Or.inr ⟨ge_5 (ok_73.1.2.1 _ (ix_lt f_74 (by decide))), by decide⟩) (nt_5 (ok_73.1.2.1 _ (ix_lt f_74 (by decide))))
    have f_85 : R (-2) (-2) (-2) := ⟨by decide, by decide⟩
    have ok_86 := Ok_w ok_84 (k := (mR h4 40 (mI h4 10 0).toNatClampNeg)) (j := (Int32.toNatClampNeg 3)) (v := (-2)) (rg_5 (ok_73.1.2.1 _ (ix_lt f_74 (by decide))) _) (R_full _) (Or.inr ⟨ge_5 (ok_73.1.2.1 _ (ix_lt f_74 (by decide))), by decide⟩) (nt_5 (ok_73.1.2.1 _ (ix_lt f_74 (by decide))))
    have f_87 : R (-2) (-2) (-2) := ⟨by decide, by decide⟩
    have ok_88 := Ok_w ok_86 (k := (mR h4 40 (mI h4 10 0).toNatClampNeg)) (j := (Int32.toNatClampNeg 4)) (v := (-2)) (rg_5 (ok_73.1.2.1 _ (ix_lt f_74 (by decide))) _) (R_full _) (Or.inr ⟨ge_5 (ok_73.1.2.1 _ (ix_lt f_74 (by decide))), by decide⟩) (nt_5 (ok_73.1.2.1 _ (ix_lt f_74 (by decide))))
    have f_94 : R 0 19 (mI (wI h4 (mR h4 40 (mI h4 10 0).toNatClampNeg) (Int32.toNatClampNeg 0) l1) 10 0) := rd_ge f_74 (by decide) (ge_5 (ok_73.1.2.1 _ (ix_lt f_74 (by decide))))
    have f_93 : R 0 19 (mI (wI (wI h4 (mR h4 40 (mI h4 10 0).toNatClampNeg) (Int32.toNatClampNeg 0) l1) (mR h4 40 (mI h4 10 0).toNatClampNeg) (Int32.toNatClampNeg 1) l2) 10 0) := rd_ge f_94 (by decide) (ge_5 (ok_73.1.2.1 _ (ix_lt f_74 (by decide))))
    have f_92 : R 0 19 (mI (wI (wI (wI h4 (mR h4 40 (mI h4 10 0).toNatClampNeg) (Int32.toNatClampNeg 0) l1) (mR h4 40 (mI h4 10 0).toNatClampNeg) (Int32.toNatClampNeg 1) l2) (mR h4 40 (mI h4 10 0).toNatClampNeg) (Int32.toNatClampNeg 2) (-2)) 10 0) := rd_ge f_93 (by decide) (ge_5 (ok_73.1.2.1 _ (ix_lt f_74 (by decide))))
    have f_91 : R 0 19 (mI (wI (wI (wI (wI h4 (mR h4 40 (mI h4 10 0).toNatClampNeg) (Int32.toNatClampNeg 0) l1) (mR h4 40 (mI h4 10 0).toNatClampNeg) (Int32.toNatClampNeg 1) l2) (mR h4 40 (mI h4 10 0).toNatClampNeg) (Int32.toNatClampNeg 2) (-2)) (mR h4 40 (mI h4 10 0).toNatClampNeg) (Int32.toNatClampNeg 3) (-2)) 10 0) := rd_ge f_92 (by decide) (ge_5 (ok_73.1.2.1 _ (ix_lt f_74 (by decide))))
    have f_90 : R 0 19 (mI (wI (wI (wI (wI (wI h4 (mR h4 40 (mI h4 10 0).toNatClampNeg) (Int32.toNatClampNeg 0) l1) (mR h4 40 (mI h4 10 0).toNatClampNeg) (Int32.toNatClampNeg 1) l2) (mR h4 40 (mI h4 10 0).toNatClampNeg) (Int32.toNatClampNeg 2) (-2)) (mR h4 40 (mI h4 10 0).toNatClampNeg) (Int32.toNatClampNeg 3) (-2)) (mR h4 40 (mI h4 10 0).toNatClampNeg) (Int32.toNatClampNeg 4) (-2)) 10 0) := rd_ge f_91 (by decide) (ge_5 (ok_73.1.2.1 _ (ix_lt f_74 (by decide))))
    have f_95 : R 1 1 1 := ⟨by decide, by decide⟩
    have f_89 : R 1 20 ((mI (wI (wI (wI (wI (wI h4 (mR h4 40 (mI h4 10 0).toNatClampNeg) (Int32.toNatClampNeg 0) l1) (mR h4 40 (mI h4 10 0).toNatClampNeg) (Int32.toNatClampNeg 1) l2) (mR h4 40 (mI h4 10 0).toNatClampNeg) (Int32.toNatClampNeg 2) (-2)) (mR h4 40 (mI h4 10 0).toNatClampNeg) (Int32.toNatClampNeg 3) (-2)) (mR h4 40 (mI h4 10 0).toNatClampNeg) (Int32.toNatClampNeg 4) (-2)) 10 0) + 1) := R_add f_90 f_95 1 20 (by decide)
    have ok_96 := Ok_w ok_88 (k := 10) (j := 0) (v := ((mI (wI (wI (wI (wI (wI h4 (mR h4 40 (mI h4 10 0).toNatClampNeg) (Int32.toNatClampNeg 0) l1) (mR h4 40 (mI h4 10 0).toNatClampNeg) (Int32.toNatClampNeg 1) l2) (mR h4 40 (mI h4 10 0).toNatClampNeg) (Int32.toNatClampNeg 2) (-2)) (mR h4 40 (mI h4 10 0).toNatClampNeg) (Int32.toNatClampNeg 3) (-2)) (mR h4 40 (mI h4 10 0).toNatClampNeg) (Int32.toNatClampNeg 4) (-2)) 10 0) + 1)) (lo := 0) (hi := 20) (by decide) (R_w f_89 (by decide)) (by decide) (by decide)
    have f_97 : R 1 20 (mI (wI (wI (wI (wI (wI (wI h4 (mR h4 40 (mI h4 10 0).toNatClampNeg) (Int32.toNatClampNeg 0) l1) (mR h4 40 (mI h4 10 0).toNatClampNeg) (Int32.toNatClampNeg 1) l2) (mR h4 40 (mI h4 10 0).toNatClampNeg) (Int32.toNatClampNeg 2) (-2)) (mR h4 40 (mI h4 10 0).toNatClampNeg) (Int32.toNatClampNeg 3) (-2)) (mR h4 40 (mI h4 10 0).toNatClampNeg) (Int32.toNatClampNeg 4) (-2)) 10 0 ((mI (wI (wI (wI (wI (wI h4 (mR h4 40 (mI h4 10 0).toNatClampNeg) (Int32.toNatClampNeg 0) l1) (mR h4 40 (mI h4 10 0).toNatClampNeg) (Int32.toNatClampNeg 1) l2) (mR h4 40 (mI h4 10 0).toNatClampNeg) (Int32.toNatClampNeg 2) (-2)) (mR h4 40 (mI h4 10 0).toNatClampNeg) (Int32.toNatClampNeg 3) (-2)) (mR h4 40 (mI h4 10 0).toNatClampNeg) (Int32.toNatClampNeg 4) (-2)) 10 0) + 1)) 10 0) := (rd_eq f_89)
    have ok_98 := Ok_w ok_96 (k := 10) (j := 1) (v := (mI (wI (wI (wI (wI (wI (wI h4 (mR h4 40 (mI h4 10 0).toNatClampNeg) (Int32.toNatClampNeg 0) l1) (mR h4 40 (mI h4 10 0).toNatClampNeg) (Int32.toNatClampNeg 1) l2) (mR h4 40 (mI h4 10 0).toNatClampNeg) (Int32.toNatClampNeg 2) (-2)) (mR h4 40 (mI h4 10 0).toNatClampNeg) (Int32.toNatClampNeg 3) (-2)) (mR h4 40 (mI h4 10 0).toNatClampNeg) (Int32.toNatClampNeg 4) (-2)) 10 0 ((mI (wI (wI (wI (wI (wI h4 (mR h4 40 (mI h4 10 0).toNatClampNeg) (Int32.toNatClampNeg 0) l1) (mR h4 40 (mI h4 10 0).toNatClampNeg) (Int32.toNatClampNeg 1) l2) (mR h4 40 (mI h4 10 0).toNatClampNeg) (Int32.toNatClampNeg 2) (-2)) (mR h4 40 (mI h4 10 0).toNatClampNeg) (Int32.toNatClampNeg 3) (-2)) (mR h4 40 (mI h4 10 0).toNatClampNeg) (Int32.toNatClampNeg 4) (-2)) 10 0) + 1)) 10 0)) (lo := 0) (hi := 20) (by decide) (R_w f_97 (by decide)) (by decide) (by decide)
    exact hp _ ok_98
  · have f_99 : R 0 20 (mI h 10 0) := GI_rd ok.1 10 _ (by decide)
    have f_100 : R 20 20 20 := ⟨by decide, by decide⟩
    have f_101 : R 20 20 (mI h 10 0) := rf_le_r f_100 f_99 (nlt c_67) 20 (by decide)
    refine s_X4_leaveOldest ok.1 (fun h12 ko_102 po_104 => ?_)
    have ok_103 := Ok_tr ok ko_102 (by decide)
    have f_106 : R 19 19 19 := ⟨by decide, by decide⟩
    have f_105 : R 19 19 (mI h12 10 0) := rf_eq f_106 po_104
    refine ⟨vin f_105 (by decide), ?_⟩
    refine ⟨(ok_103.1.2.2 _ (ix_lt f_105 (by decide))).1, ?_⟩
    refine s_X8_save (mR h12 41 (mI h12 10 0).toNatClampNeg) (ok_103.1.2.2 _ (ix_lt f_105 (by decide))).1 (ok_103.1.2.2 _ (ix_lt f_105 (by decide))).2 ok_103.1 (fun h15 ko_107 => ?_)
    have ok_108 := Ok_tr ok_103 ko_107 (by decide)
    have f_109 : R 19 19 (mI h15 10 0) := Ok_rd ko_107 (by decide) f_105
    refine ⟨vin f_109 (by decide), ?_⟩
    refine ⟨(ok_108.1.2.1 _ (ix_lt f_109 (by decide))), ?_⟩
    have f_110 : R 0 0 0 := ⟨by decide, by decide⟩
    refine ⟨vin f_110 (by decide), ?_⟩
    have f_111 : R 1 1 1 := ⟨by decide, by decide⟩
    refine ⟨vin f_111 (by decide), ?_⟩
    have f_112 : R 2 2 2 := ⟨by decide, by decide⟩
    refine ⟨vin f_112 (by decide), ?_⟩
    have f_113 : R 3 3 3 := ⟨by decide, by decide⟩
    refine ⟨vin f_113 (by decide), ?_⟩
    have f_114 : R 4 4 4 := ⟨by decide, by decide⟩
    refine ⟨vin f_114 (by decide), ?_⟩
    have ok_115 := Ok_w ok_108 (k := (mR h15 40 (mI h15 10 0).toNatClampNeg)) (j := (Int32.toNatClampNeg 0)) (v := l1) (rg_5 (ok_108.1.2.1 _ (ix_lt f_109 (by decide))) _) (R_full _) (Or.inr ⟨ge_5 (ok_108.1.2.1 _ (ix_lt f_109 (by decide))), by decide⟩) (nt_5 (ok_108.1.2.1 _ (ix_lt f_109 (by decide))))
    have ok_116 := Ok_w ok_115 (k := (mR h15 40 (mI h15 10 0).toNatClampNeg)) (j := (Int32.toNatClampNeg 1)) (v := l2) (rg_5 (ok_108.1.2.1 _ (ix_lt f_109 (by decide))) _) (R_full _) (Or.inr ⟨ge_5 (ok_108.1.2.1 _ (ix_lt f_109 (by decide))), by decide⟩) (nt_5 (ok_108.1.2.1 _ (ix_lt f_109 (by decide))))
    have f_117 : R (-2) (-2) (-2) := ⟨by decide, by decide⟩
    have ok_118 := Ok_w ok_116 (k := (mR h15 40 (mI h15 10 0).toNatClampNeg)) (j := (Int32.toNatClampNeg 2)) (v := (-2)) (rg_5 (ok_108.1.2.1 _ (ix_lt f_109 (by decide))) _) (R_full _) (Or.inr ⟨ge_5 (ok_108.1.2.1 _ (ix_lt f_109 (by decide))), by decide⟩) (nt_5 (ok_108.1.2.1 _ (ix_lt f_109 (by decide))))
    have f_119 : R (-2) (-2) (-2) := ⟨by decide, by decide⟩
    have ok_120 := Ok_w ok_118 (k := (mR h15 40 (mI h15 10 0).toNatClampNeg)) (j := (Int32.toNatClampNeg 3)) (v := (-2)) (rg_5 (ok_108.1.2.1 _ (ix_lt f_109 (by decide))) _) (R_full _) (Or.inr ⟨ge_5 (ok_108.1.2.1 _ (ix_lt f_109 (by decide))), by decide⟩) (nt_5 (ok_108.1.2.1 _ (ix_lt f_109 (by decide))))
    have f_121 : R (-2) (-2) (-2) := ⟨by decide, by decide⟩
    have ok_122 := Ok_w ok_120 (k := (mR h15 40 (mI h15 10 0).toNatClampNeg)) (j := (Int32.toNatClampNeg 4)) (v := (-2)) (rg_5 (ok_108.1.2.1 _ (ix_lt f_109 (by decide))) _) (R_full _) (Or.inr ⟨ge_5 (ok_108.1.2.1 _ (ix_lt f_109 (by decide))), by decide⟩) (nt_5 (ok_108.1.2.1 _ (ix_lt f_109 (by decide))))
    have f_128 : R 19 19 (mI (wI h15 (mR h15 40 (mI h15 10 0).toNatClampNeg) (Int32.toNatClampNeg 0) l1) 10 0) := rd_ge f_109 (by decide) (ge_5 (ok_108.1.2.1 _ (ix_lt f_109 (by decide))))
    have f_127 : R 19 19 (mI (wI (wI h15 (mR h15 40 (mI h15 10 0).toNatClampNeg) (Int32.toNatClampNeg 0) l1) (mR h15 40 (mI h15 10 0).toNatClampNeg) (Int32.toNatClampNeg 1) l2) 10 0) := rd_ge f_128 (by decide) (ge_5 (ok_108.1.2.1 _ (ix_lt f_109 (by decide))))
    have f_126 : R 19 19 (mI (wI (wI (wI h15 (mR h15 40 (mI h15 10 0).toNatClampNeg) (Int32.toNatClampNeg 0) l1) (mR h15 40 (mI h15 10 0).toNatClampNeg) (Int32.toNatClampNeg 1) l2) (mR h15 40 (mI h15 10 0).toNatClampNeg) (Int32.toNatClampNeg 2) (-2)) 10 0) := rd_ge f_127 (by decide) (ge_5 (ok_108.1.2.1 _ (ix_lt f_109 (by decide))))
    have f_125 : R 19 19 (mI (wI (wI (wI (wI h15 (mR h15 40 (mI h15 10 0).toNatClampNeg) (Int32.toNatClampNeg 0) l1) (mR h15 40 (mI h15 10 0).toNatClampNeg) (Int32.toNatClampNeg 1) l2) (mR h15 40 (mI h15 10 0).toNatClampNeg) (Int32.toNatClampNeg 2) (-2)) (mR h15 40 (mI h15 10 0).toNatClampNeg) (Int32.toNatClampNeg 3) (-2)) 10 0) := rd_ge f_126 (by decide) (ge_5 (ok_108.1.2.1 _ (ix_lt f_109 (by decide))))
    have f_124 : R 19 19 (mI (wI (wI (wI (wI (wI h15 (mR h15 40 (mI h15 10 0).toNatClampNeg) (Int32.toNatClampNeg 0) l1) (mR h15 40 (mI h15 10 0).toNatClampNeg) (Int32.toNatClampNeg 1) l2) (mR h15 40 (mI h15 10 0).toNatClampNeg) (Int32.toNatClampNeg 2) (-2)) (mR h15 40 (mI h15 10 0).toNatClampNeg) (Int32.toNatClampNeg 3) (-2)) (mR h15 40 (mI h15 10 0).toNatClampNeg) (Int32.toNatClampNeg 4) (-2)) 10 0) := rd_ge f_125 (by decide) (ge_5 (ok_108.1.2.1 _ (ix_lt f_109 (by decide))))
    have f_129 : R 1 1 1 := ⟨by decide, by decide⟩
    have f_123 : R 20 20 ((mI (wI (wI (wI (wI (wI h15 (mR h15 40 (mI h15 10 0).toNatClampNeg) (Int32.toNatClampNeg 0) l1) (mR h15 40 (mI h15 10 0).toNatClampNeg) (Int32.toNatClampNeg 1) l2) (mR h15 40 (mI h15 10 0).toNatClampNeg) (Int32.toNatClampNeg 2) (-2)) (mR h15 40 (mI h15 10 0).toNatClampNeg) (Int32.toNatClampNeg 3) (-2)) (mR h15 40 (mI h15 10 0).toNatClampNeg) (Int32.toNatClampNeg 4) (-2)) 10 0) + 1) := R_add f_124 f_129 20 20 (by decide)
    have ok_130 := Ok_w ok_122 (k := 10) (j := 0) (v := ((mI (wI (wI (wI (wI (wI h15 (mR h15 40 (mI h15 10 0).toNatClampNeg) (Int32.toNatClampNeg 0) l1) (mR h15 40 (mI h15 10 0).toNatClampNeg) (Int32.toNatClampNeg 1) l2) (mR h15 40 (mI h15 10 0).toNatClampNeg) (Int32.toNatClampNeg 2) (-2)) (mR h15 40 (mI h15 10 0).toNatClampNeg) (Int32.toNatClampNeg 3) (-2)) (mR h15 40 (mI h15 10 0).toNatClampNeg) (Int32.toNatClampNeg 4) (-2)) 10 0) + 1)) (lo := 0) (hi := 20) (by decide) (R_w f_123 (by decide)) (by decide) (by decide)
    have f_131 : R 20 20 (mI (wI (wI (wI (wI (wI (wI h15 (mR h15 40 (mI h15 10 0).toNatClampNeg) (Int32.toNatClampNeg 0) l1) (mR h15 40 (mI h15 10 0).toNatClampNeg) (Int32.toNatClampNeg 1) l2) (mR h15 40 (mI h15 10 0).toNatClampNeg) (Int32.toNatClampNeg 2) (-2)) (mR h15 40 (mI h15 10 0).toNatClampNeg) (Int32.toNatClampNeg 3) (-2)) (mR h15 40 (mI h15 10 0).toNatClampNeg) (Int32.toNatClampNeg 4) (-2)) 10 0 ((mI (wI (wI (wI (wI (wI h15 (mR h15 40 (mI h15 10 0).toNatClampNeg) (Int32.toNatClampNeg 0) l1) (mR h15 40 (mI h15 10 0).toNatClampNeg) (Int32.toNatClampNeg 1) l2) (mR h15 40 (mI h15 10 0).toNatClampNeg) (Int32.toNatClampNeg 2) (-2)) (mR h15 40 (mI h15 10 0).toNatClampNeg) (Int32.toNatClampNeg 3) (-2)) (mR h15 40 (mI h15 10 0).toNatClampNeg) (Int32.toNatClampNeg 4) (-2)) 10 0) + 1)) 10 0) := (rd_eq f_123)
    have ok_132 := Ok_w ok_130 (k := 10) (j := 1) (v := (mI (wI (wI (wI (wI (wI (wI h15 (mR h15 40 (mI h15 10 0).toNatClampNeg) (Int32.toNatClampNeg 0) l1) (mR h15 40 (mI h15 10 0).toNatClampNeg) (Int32.toNatClampNeg 1) l2) (mR h15 40 (mI h15 10 0).toNatClampNeg) (Int32.toNatClampNeg 2) (-2)) (mR h15 40 (mI h15 10 0).toNatClampNeg) (Int32.toNatClampNeg 3) (-2)) (mR h15 40 (mI h15 10 0).toNatClampNeg) (Int32.toNatClampNeg 4) (-2)) 10 0 ((mI (wI (wI (wI (wI (wI h15 (mR h15 40 (mI h15 10 0).toNatClampNeg) (Int32.toNatClampNeg 0) l1) (mR h15 40 (mI h15 10 0).toNatClampNeg) (Int32.toNatClampNeg 1) l2) (mR h15 40 (mI h15 10 0).toNatClampNeg) (Int32.toNatClampNeg 2) (-2)) (mR h15 40 (mI h15 10 0).toNatClampNeg) (Int32.toNatClampNeg 3) (-2)) (mR h15 40 (mI h15 10 0).toNatClampNeg) (Int32.toNatClampNeg 4) (-2)) 10 0) + 1)) 10 0)) (lo := 0) (hi := 20) (by decide) (R_w f_131 (by decide)) (by decide) (by decide)
    exact hp _ ok_132
set_option maxRecDepth 100000 in
set_option maxHeartbeats 4000000 in
theorem s_X4_tellMove {g : gT} {h : mh_T} {P : mh_T → Prop} (l1 : Int32) (l2 : Int32) (l3 : Int32) (hG : GI h)  (hp : ∀ h', Ok [302] h h' → P h') : MCv g yX4_tellMove uX4_tellMove [.ref 10, .int l1, .int l2, .int l3] h P := by
  have ok : Ok [302] h h := Ok_rf hG
  refine e_X4_tellMove l1 l2 l3  ?_
  refine ⟨fun c_16 => ?_, fun c_16 => ?_⟩
  · have f_17 : R 0 20 (mI h 10 0) := GI_rd ok.1 10 _ (by decide)
    have f_18 : R 0 0 0 := ⟨by decide, by decide⟩
    have f_19 : R 0 0 (mI h 10 0) := rf_le_l f_17 f_18 c_16 0 (by decide)
    exact hp _ ok
  · have f_20 : R 0 20 (mI h 10 0) := GI_rd ok.1 10 _ (by decide)
    have f_21 : R 0 0 0 := ⟨by decide, by decide⟩
    have f_22 : R 1 20 (mI h 10 0) := rf_lt_r f_21 f_20 (nle c_16) 1 (by decide)
    have f_24 : R 1 1 1 := ⟨by decide, by decide⟩
    have f_23 : R 0 19 ((mI h 10 0) - 1) := R_sub f_22 f_24 0 19 (by decide)
    refine ⟨vin f_23 (by decide), ?_⟩
    refine ⟨(ok.1.2.1 _ (ix_lt f_23 (by decide))), ?_⟩
    have f_25 : R 2 2 2 := ⟨by decide, by decide⟩
    refine ⟨vin f_25 (by decide), ?_⟩
    have f_26 : R 3 3 3 := ⟨by decide, by decide⟩
    refine ⟨vin f_26 (by decide), ?_⟩
    have f_27 : R 4 4 4 := ⟨by decide, by decide⟩
    refine ⟨vin f_27 (by decide), ?_⟩
    have ok_28 := Ok_w ok (k := (mR h 40 ((mI h 10 0) - 1).toNatClampNeg)) (j := (Int32.toNatClampNeg 2)) (v := l1) (rg_5 (ok.1.2.1 _ (ix_lt f_23 (by decide))) _) (R_full _) (Or.inr ⟨ge_5 (ok.1.2.1 _ (ix_lt f_23 (by decide))), by decide⟩) (nt_5 (ok.1.2.1 _ (ix_lt f_23 (by decide))))
    have ok_29 := Ok_w ok_28 (k := (mR h 40 ((mI h 10 0) - 1).toNatClampNeg)) (j := (Int32.toNatClampNeg 3)) (v := l2) (rg_5 (ok.1.2.1 _ (ix_lt f_23 (by decide))) _) (R_full _) (Or.inr ⟨ge_5 (ok.1.2.1 _ (ix_lt f_23 (by decide))), by decide⟩) (nt_5 (ok.1.2.1 _ (ix_lt f_23 (by decide))))
    have ok_30 := Ok_w ok_29 (k := (mR h 40 ((mI h 10 0) - 1).toNatClampNeg)) (j := (Int32.toNatClampNeg 4)) (v := l3) (rg_5 (ok.1.2.1 _ (ix_lt f_23 (by decide))) _) (R_full _) (Or.inr ⟨ge_5 (ok.1.2.1 _ (ix_lt f_23 (by decide))), by decide⟩) (nt_5 (ok.1.2.1 _ (ix_lt f_23 (by decide))))
    exact hp _ ok_30
set_option maxRecDepth 100000 in
set_option maxHeartbeats 4000000 in
theorem s_X8_clearCoins_L {g : gT} {h0 : mh_T} {P : mh_T → Prop} (hG0 : GI h0) (hp : ∀ h', Ok [27] h0 h' → P h') : ∀ n : Nat, (∀ (l1 : Int32) (h : mh_T), Ok [27] h0 h → R 0 32 l1 → 1 * gap 32 l1 + 0 < n → ME g uX8_clearCoins 2 [.ref 3, .int l1] [] h (qV P)) := by
  intro n
  induction n with
  | zero =>
    exact (fun _ _ _ _ hm => absurd hm (Nat.not_lt_zero _))
  | succ n ih =>
    intro l1 h  ok fl1     hm
    refine r_X8_clearCoins_2 l1  ?_
    refine ⟨fun c_187 => ?_, fun c_187 => ?_⟩
    · have f_188 : R 32 32 32 := ⟨by decide, by decide⟩
      have f_189 : R 32 32 l1 := rf_le_r f_188 fl1 c_187 32 (by decide)
      exact hp _ ok
    · have f_190 : R 32 32 32 := ⟨by decide, by decide⟩
      have f_191 : R 0 31 l1 := rf_lt_l fl1 f_190 (nle c_187) 31 (by decide)
      have f_192 : R 32 32 32 := ⟨by decide, by decide⟩
      refine ⟨vin f_191 (by decide), ?_⟩
      have f_194 : R 1 1 1 := ⟨by decide, by decide⟩
      have f_193 : R 1 32 (l1 + 1) := R_add f_191 f_194 1 32 (by decide)
      have f_195 : R 0 0 0 := ⟨by decide, by decide⟩
      have ok_196 := Ok_w ok (k := 27) (j := l1.toNatClampNeg) (v := 0) (lo := (-2147483648)) (hi := 2147483647) (rgc_27 _) (R_w f_195 (by decide)) (by decide) (nt_k (by decide))
      have g_197 := gap_inc (N := 32) f_191 (by decide)
      exact ih (l1 + 1) (wI h 27 l1.toNatClampNeg 0)  ok_196 (R_w f_193 (by decide)) (by omega)
set_option maxRecDepth 100000 in
set_option maxHeartbeats 4000000 in
theorem s_X8_clearCoins {g : gT} {h : mh_T} {P : mh_T → Prop}  (hG : GI h)  (hp : ∀ h', Ok [27] h h' → P h') : MCv g yX8_clearCoins uX8_clearCoins [.ref 3] h P := by
  have ok : Ok [27] h h := Ok_rf hG
  have L0 := s_X8_clearCoins_L (g := g) hG hp 33
  refine e_X8_clearCoins   ?_
  have f_198 : R 0 0 0 := ⟨by decide, by decide⟩
  have f_199 : R 0 0 0 := ⟨by decide, by decide⟩
  have g_200 := gap_le (N := 32) f_199 (m := 32) (by decide)
  exact L0 0 h  ok (R_w f_198 (by decide)) (by omega)
set_option maxRecDepth 100000 in
theorem s_X8_restore {g : gT} {h : mh_T} {P : mh_T → Prop} (l1 : Nat) (sl1 : shp l1 = (20, 49, [])) (hn : 116 ≤ l1) (hG : GI h) (hp : ∀ h', Ok [3, 24, 25, 26, 27] h h' → P h') : MCv g yX8_restore uX8_restore [.ref 3, .ref l1] h P := by
  have hk := shp_lt sl1 (by decide)
  have ok : Ok [3, 24, 25, 26, 27] h h := Ok_rf hG
  have f0 : R 0 8 (mI h l1 0) := GI_rd hG l1 0 (by rw [rg_row hn hk]; decide)
  have o1 : Ok [3, 24, 25, 26, 27] h (wI h 3 2 (mI h l1 0)) := Ok_w ok (lo := 0) (hi := 8) (by decide) f0 (by decide) (by decide)
  have o2 := Ok_cp o1 (k0 := l1) (sp := 1) (k1 := 24) (dp := 0) (n := 8) (rowcp' hn hk (by decide)) (by decide) (by decide)
  have o3 := Ok_cp o2 (k0 := l1) (sp := 9) (k1 := 25) (dp := 0) (n := 8) (rowcp' hn hk (by decide)) (by decide) (by decide)
  have o4 := Ok_cp o3 (k0 := l1) (sp := 17) (k1 := 26) (dp := 0) (n := 32) (rowcp' hn hk (by decide)) (by decide) (by decide)
  refine e_X8_restore l1 sl1 ⟨by unfold vp_in; decide, ?_⟩
  refine s_X8_clearCoins o4.1 (fun h2 ko => ?_)
  have o5 := Ok_tr o4 ko (by decide)
  exact hp _ (Ok_w o5 (k := 3) (j := 3) (lo := -2147483648) (hi := 2147483647) (by decide) (R_full _) (by decide) (by decide))
set_option maxRecDepth 100000 in
set_option maxHeartbeats 4000000 in
theorem s_X4_takeBack {g : gT} {h : mh_T} {P : Int32 → mh_T → Prop}  (hG : GI h)  (hp : ∀ (r : Int32) h', Ok [3, 10, 24, 25, 26, 27, 302] h h' → R 0 1 r → P r h') : MCi g yX4_takeBack uX4_takeBack [.ref 10] h P := by
  have ok : Ok [3, 10, 24, 25, 26, 27, 302] h h := Ok_rf hG
  refine e_X4_takeBack   ?_
  refine ⟨fun c_19 => ?_, fun c_19 => ?_⟩
  · have f_20 : R 0 20 (mI h 10 0) := GI_rd ok.1 10 _ (by decide)
    have f_21 : R 0 0 0 := ⟨by decide, by decide⟩
    have f_22 : R 1 20 (mI h 10 0) := rf_ne_lo f_20 c_19 (by decide) 1 rfl
    refine ⟨vin f_22 (by decide), ?_⟩
    refine ⟨(ok.1.2.2 _ (ix_lt f_22 (by decide))).1, ?_⟩
    refine s_X8_save (mR h 41 (mI h 10 0).toNatClampNeg) (ok.1.2.2 _ (ix_lt f_22 (by decide))).1 (ok.1.2.2 _ (ix_lt f_22 (by decide))).2 ok.1 (fun h4 ko_23 => ?_)
    have ok_24 := Ok_tr ok ko_23 (by decide)
    have f_27 : R 1 20 (mI h4 10 0) := Ok_rd ko_23 (by decide) f_22
    have f_28 : R 1 1 1 := ⟨by decide, by decide⟩
    have f_26 : R 0 19 ((mI h4 10 0) - 1) := R_sub f_27 f_28 0 19 (by decide)
    have f_25 : R 0 19 (mI (wI h4 10 0 ((mI h4 10 0) - 1)) 10 0) := (rd_eq f_26)
    refine ⟨vin f_25 (by decide), ?_⟩
    have ok_29 := Ok_w ok_24 (k := 10) (j := 0) (v := ((mI h4 10 0) - 1)) (lo := 0) (hi := 20) (by decide) (R_w f_26 (by decide)) (by decide) (by decide)
    refine ⟨(ok_29.1.2.2 _ (ix_lt f_25 (by decide))).1, ?_⟩
    refine s_X8_restore (mR (wI h4 10 0 ((mI h4 10 0) - 1)) 41 (mI (wI h4 10 0 ((mI h4 10 0) - 1)) 10 0).toNatClampNeg) (ok_24.1.2.2 _ (ix_lt f_25 (by decide))).1 (ok_24.1.2.2 _ (ix_lt f_25 (by decide))).2 ok_29.1 (fun h7 ko_30 => ?_)
    have ok_31 := Ok_tr ok_29 ko_30 (by decide)
    have f_32 : R 1 1 1 := ⟨by decide, by decide⟩
    exact hp _ _ ok_31 (R_w f_32 (by decide))
  · have f_33 : R 0 20 (mI h 10 0) := GI_rd ok.1 10 _ (by decide)
    have f_34 : R 0 0 0 := ⟨by decide, by decide⟩
    have f_35 : R 0 0 (mI h 10 0) := rf_eq f_34 c_19
    have f_36 : R 0 0 0 := ⟨by decide, by decide⟩
    exact hp _ _ ok (R_w f_36 (by decide))
set_option maxRecDepth 100000 in
set_option maxHeartbeats 4000000 in
theorem s_X4_makeAgain {g : gT} {h : mh_T} {P : Int32 → mh_T → Prop}  (hG : GI h)  (hp : ∀ (r : Int32) h', Ok [3, 10, 24, 25, 26, 27, 302] h h' → R 0 1 r → P r h') : MCi g yX4_makeAgain uX4_makeAgain [.ref 10] h P := by
  have ok : Ok [3, 10, 24, 25, 26, 27, 302] h h := Ok_rf hG
  refine e_X4_makeAgain   ?_
  refine ⟨fun c_16 => ?_, fun c_16 => ?_⟩
  · have f_17 : R 0 20 (mI h 10 0) := GI_rd ok.1 10 _ (by decide)
    have f_18 : R 0 20 (mI h 10 1) := GI_rd ok.1 10 _ (by decide)
    have f_19 : R 0 19 (mI h 10 0) := rf_lt_l f_17 f_18 c_16 19 (by decide)
    have f_20 : R 1 20 (mI h 10 1) := rf_lt_r f_17 f_18 c_16 1 (by decide)
    have f_23 : R 1 1 1 := ⟨by decide, by decide⟩
    have f_22 : R 1 20 ((mI h 10 0) + 1) := R_add f_19 f_23 1 20 (by decide)
    have f_21 : R 1 20 (mI (wI h 10 0 ((mI h 10 0) + 1)) 10 0) := (rd_eq f_22)
    refine ⟨vin f_21 (by decide), ?_⟩
    have ok_24 := Ok_w ok (k := 10) (j := 0) (v := ((mI h 10 0) + 1)) (lo := 0) (hi := 20) (by decide) (R_w f_22 (by decide)) (by decide) (by decide)
    refine ⟨(ok_24.1.2.2 _ (ix_lt f_21 (by decide))).1, ?_⟩
    refine s_X8_restore (mR (wI h 10 0 ((mI h 10 0) + 1)) 41 (mI (wI h 10 0 ((mI h 10 0) + 1)) 10 0).toNatClampNeg) (ok.1.2.2 _ (ix_lt f_21 (by decide))).1 (ok.1.2.2 _ (ix_lt f_21 (by decide))).2 ok_24.1 (fun h4 ko_25 => ?_)
    have ok_26 := Ok_tr ok_24 ko_25 (by decide)
    have f_27 : R 1 1 1 := ⟨by decide, by decide⟩
    exact hp _ _ ok_26 (R_w f_27 (by decide))
  · have f_28 : R 0 20 (mI h 10 0) := GI_rd ok.1 10 _ (by decide)
    have f_29 : R 0 20 (mI h 10 1) := GI_rd ok.1 10 _ (by decide)
    have f_30 : R 0 0 0 := ⟨by decide, by decide⟩
    exact hp _ _ ok (R_w f_30 (by decide))
set_option maxRecDepth 100000 in
set_option maxHeartbeats 4000000 in
theorem s_X4_keep {g : gT} {h : mh_T} {P : Int32 → mh_T → Prop}  (hG : GI h) (fi0 : R 0 3 (mI h 10 2)) (hp : ∀ (r : Int32) h', Ok [10, 302] h h' → R 0 3 r → P r h') : MCi g yX4_keep uX4_keep [.ref 10] h P := by
  have ok : Ok [10, 302] h h := Ok_rf hG
  refine e_X4_keep   ?_
  refine ⟨vin fi0 (by decide), ?_⟩
  refine s_X8_save (137 + (mI h 10 2).toNatClampNeg) (shp_137 _ (ix_lt fi0 (by decide))) (by omega) ok.1 (fun h2 ko_10 => ?_)
  have ok_11 := Ok_tr ok ko_10 (by decide)
  have f_13 : R 0 3 (mI h2 10 2) := Ok_rd ko_10 (by decide) fi0
  have f_14 : R 1 1 1 := ⟨by decide, by decide⟩
  have f_12 : R 1 4 ((mI h2 10 2) + 1) := R_add f_13 f_14 1 4 (by decide)
  have ok_15 := Ok_w ok_11 (k := 10) (j := 2) (v := ((mI h2 10 2) + 1)) (lo := 0) (hi := 4) (by decide) (R_w f_12 (by decide)) (by decide) (by decide)
  have f_17 : R 1 4 (mI (wI h2 10 2 ((mI h2 10 2) + 1)) 10 2) := (rd_eq f_12)
  have f_18 : R 1 1 1 := ⟨by decide, by decide⟩
  have f_16 : R 0 3 ((mI (wI h2 10 2 ((mI h2 10 2) + 1)) 10 2) - 1) := R_sub f_17 f_18 0 3 (by decide)
  exact hp _ _ ok_15 (R_w f_16 (by decide))
set_option maxRecDepth 100000 in
set_option maxHeartbeats 4000000 in
theorem s_X4_goBack {g : gT} {h : mh_T} {P : Int32 → mh_T → Prop} (l1 : Int32) (hG : GI h)  (hp : ∀ (r : Int32) h', Ok [3, 10, 24, 25, 26, 27, 302] h h' → R 0 1 r → P r h') : MCi g yX4_goBack uX4_goBack [.ref 10, .int l1] h P := by
  have ok : Ok [3, 10, 24, 25, 26, 27, 302] h h := Ok_rf hG
  refine e_X4_goBack l1  ?_
  refine ⟨fun c_21 => ?_, fun c_21 => ?_⟩
  · have f_22 : R 0 0 0 := ⟨by decide, by decide⟩
    have f_23 : R (-2147483648) (-1) l1 := rf_lt_l (R_full l1) f_22 c_21 (-1) (by decide)
    have f_24 : R 0 0 0 := ⟨by decide, by decide⟩
    exact hp _ _ ok (R_w f_24 (by decide))
  · have f_25 : R 0 0 0 := ⟨by decide, by decide⟩
    have f_26 : R 0 2147483647 l1 := rf_le_r f_25 (R_full l1) (nlt c_21) 0 (by decide)
    refine ⟨fun c_27 => ?_, fun c_27 => ?_⟩
    · have f_28 : R 0 4 (mI h 10 2) := GI_rd ok.1 10 _ (by decide)
      have f_29 : R 0 3 l1 := rf_lt_l f_26 f_28 c_27 3 (by decide)
      have f_30 : R 1 4 (mI h 10 2) := rf_lt_r f_26 f_28 c_27 1 (by decide)
      have f_31 : R 0 0 0 := ⟨by decide, by decide⟩
      refine ⟨vin f_29 (by decide), ?_⟩
      refine s_X8_restore (137 + l1.toNatClampNeg) (shp_137 _ (ix_lt f_29 (by decide))) (by omega) ok.1 (fun h4 ko_32 => ?_)
      have ok_33 := Ok_tr ok ko_32 (by decide)
      have f_34 : R 0 0 0 := ⟨by decide, by decide⟩
      have ok_35 := Ok_w ok_33 (k := 10) (j := 0) (v := 0) (lo := 0) (hi := 20) (by decide) (R_w f_34 (by decide)) (by decide) (by decide)
      have f_36 : R 0 0 0 := ⟨by decide, by decide⟩
      have ok_37 := Ok_w ok_35 (k := 10) (j := 1) (v := 0) (lo := 0) (hi := 20) (by decide) (R_w f_36 (by decide)) (by decide) (by decide)
      have f_38 : R 1 1 1 := ⟨by decide, by decide⟩
      exact hp _ _ ok_37 (R_w f_38 (by decide))
    · have f_39 : R 0 4 (mI h 10 2) := GI_rd ok.1 10 _ (by decide)
      have f_40 : R 0 0 0 := ⟨by decide, by decide⟩
      exact hp _ _ ok (R_w f_40 (by decide))
set_option maxRecDepth 100000 in
set_option maxHeartbeats 4000000 in
theorem s_X5_soLines_L {g : gT} {h0 : mh_T} {P : Int32 → mh_T → Prop} (hG0 : GI h0) (hp : ∀ r : Int32, R 0 255 r → P r h0) : ∀ n : Nat, (∀ (l2 : Int32) (l3 : Int32) (l4 : Int32), R (-2147483648) 2147483647 l2 → R 0 255 l3 → R 0 8 l4 → 1 * gap 8 l4 + 0 < n → ME g uX5_soLines 5 [.ref 7, .ref 2, .int l2, .int l3, .int l4] [] h0 (qI P)) := by
  intro n
  induction n with
  | zero =>
    exact (fun _ _ _ _ _ _ hm => absurd hm (Nat.not_lt_zero _))
  | succ n ih =>
    intro l2 l3 l4  fl2 fl3 fl4     hm
    have ok : Ok [] h0 h0 := Ok_rf hG0
    refine r_X5_soLines_5 l2 l3 l4  ?_
    refine ⟨fun c_183 => ?_, fun c_183 => ?_⟩
    · have f_184 : R 0 8 (mI h0 7 1) := GI_rd ok.1 7 _ (by decide)
      exact hp _ (R_w fl3 (by decide))
    · have f_185 : R 0 8 (mI h0 7 1) := GI_rd ok.1 7 _ (by decide)
      have f_186 : R 0 7 l4 := rf_lt_l fl4 f_185 (nle c_183) 7 (by decide)
      have f_187 : R 1 8 (mI h0 7 1) := rf_lt_r fl4 f_185 (nle c_183) 1 (by decide)
      refine ⟨vin f_186 (by decide), ?_⟩
      refine s_J6_bitCount_0f7a4 (l2 &&& (mI h0 18 l4.toNatClampNeg)) ok.1 (fun r4 f_188 => ?_)
      refine ⟨vin f_186 (by decide), ?_⟩
      refine ⟨fun c_189 => ?_, fun c_189 => ?_⟩
      · have f_190 : R (-2147483648) 2147483647 (r4 - r4 / 2 * 2) := R_full _
        have f_191 : R (-2147483648) 2147483647 (mI h0 19 l4.toNatClampNeg) := R_full _
        have f_193 : R 1 1 1 := ⟨by decide, by decide⟩
        have f_192 : R 1 8 (l4 + 1) := R_add f_186 f_193 1 8 (by decide)
        have g_194 := gap_inc (N := 8) f_186 (by decide)
        exact ih l2 l3 (l4 + 1)  (R_w fl2 (by decide)) (R_w fl3 (by decide)) (R_w f_192 (by decide)) (by omega)
      · have f_195 : R (-2147483648) 2147483647 (r4 - r4 / 2 * 2) := R_full _
        have f_196 : R (-2147483648) 2147483647 (mI h0 19 l4.toNatClampNeg) := R_full _
        intro x7 ex7
        have f_198 : R 1 128 (1 <<< (l4 &&& 31)) := R_shl f_186 1 128 0 7 (by decide)
        have f_197 : R 0 255 (l3 ||| (1 <<< (l4 &&& 31))) := R_or fl3 f_198 8 255 (by decide)
        have f_199 : R 0 255 x7 := rf_eq f_197 ex7
        have f_201 : R 1 1 1 := ⟨by decide, by decide⟩
        have f_200 : R 1 8 (l4 + 1) := R_add f_186 f_201 1 8 (by decide)
        have g_202 := gap_inc (N := 8) f_186 (by decide)
        exact ih l2 x7 (l4 + 1)  (R_w fl2 (by decide)) (R_w f_199 (by decide)) (R_w f_200 (by decide)) (by omega)
set_option maxRecDepth 100000 in
set_option maxHeartbeats 4000000 in
theorem s_X5_soLines {g : gT} {h : mh_T} {P : Int32 → mh_T → Prop} (l2 : Int32) (hG : GI h)  (hp : ∀ r : Int32, R 0 255 r → P r h) : MCi g yX5_soLines uX5_soLines [.ref 7, .ref 2, .int l2] h P := by
  have ok : Ok [] h h := Ok_rf hG
  have L0 := s_X5_soLines_L (g := g) hG hp 9
  refine e_X5_soLines l2  ?_
  have f_203 : R 0 0 0 := ⟨by decide, by decide⟩
  have f_204 : R 0 0 0 := ⟨by decide, by decide⟩
  have f_205 : R 0 0 0 := ⟨by decide, by decide⟩
  have g_206 := gap_le (N := 8) f_205 (m := 8) (by decide)
  exact L0 l2 0 0  (R_w (R_full l2) (by decide)) (R_w f_203 (by decide)) (R_w f_204 (by decide)) (by omega)
set_option maxRecDepth 100000 in
set_option maxHeartbeats 4000000 in
theorem s_X5_spread_L {g : gT} {h0 : mh_T} {P : mh_T → Prop} (hG0 : GI h0) (hp : ∀ h', Ok [31] h0 h' → P h') : ∀ n : Nat, (∀ (l1 : Int32) (h : mh_T), Ok [31] h0 h → R 0 255 l1 → 10 * gad_ 0 l1 + 9 < n → ME g uX5_spread 9 [.ref 7, .int l1, .retAddr 0] [] h (qV P)) ∧ (∀ (l1 : Int32) (l2 : Int32) (h : mh_T), Ok [31] h0 h → R 1 255 l1 → R 0 8 l2 → 1 * gap 8 l2 + 10 * gad_ 0 l1 + 0 < n → ME g uX5_spread 15 [.ref 7, .int l1, .int l2] [] h (qV P)) := by
  intro n
  induction n with
  | zero =>
    exact ⟨(fun _ _ _ _ hm => absurd hm (Nat.not_lt_zero _)), (fun _ _ _ _ _ _ hm => absurd hm (Nat.not_lt_zero _))⟩
  | succ n ih =>
    refine ⟨?_, ?_⟩
    · intro l1 h  ok fl1     hm
      refine r_X5_spread_9 l1  ?_
      refine ⟨fun c_314 => ?_, fun c_314 => ?_⟩
      · have f_315 : R 0 0 0 := ⟨by decide, by decide⟩
        have f_316 : R 0 0 l1 := rf_le_l fl1 f_315 c_314 0 (by decide)
        exact hp _ ok
      · have f_317 : R 0 0 0 := ⟨by decide, by decide⟩
        have f_318 : R 1 255 l1 := rf_lt_r f_317 fl1 (nle c_314) 1 (by decide)
        have f_319 : R 0 0 0 := ⟨by decide, by decide⟩
        have f_320 : R 0 0 0 := ⟨by decide, by decide⟩
        have g_321 := gap_le (N := 8) f_320 (m := 8) (by decide)
        exact (ih.2) l1 0 h  ok (R_w f_318 (by decide)) (R_w f_319 (by decide)) (by omega)
    · intro l1 l2 h  ok fl1 fl2     hm
      refine r_X5_spread_15 l1 l2  ?_
      refine ⟨vin fl1 (by decide), ?_⟩
      refine ⟨fun c_322 => ?_, fun c_322 => ?_⟩
      · have f_323 : R 0 1 (mI h 31 l1.toNatClampNeg) := GI_rd ok.1 31 _ rfl
        have f_324 : R 0 0 0 := ⟨by decide, by decide⟩
        have f_325 : R 0 0 (mI h 31 l1.toNatClampNeg) := rf_eq f_324 c_322
        have f_327 : R (-1) (-1) (-1) := ⟨by decide, by decide⟩
        have f_326 : R 0 254 (l1 + (-1)) := R_add fl1 f_327 0 254 (by decide)
        have g_328 := gad_dec (L := 0) fl1 (by decide)
        exact (ih.1) (l1 + (-1)) h  ok (R_w f_326 (by decide)) (by omega)
      · have f_329 : R 0 1 (mI h 31 l1.toNatClampNeg) := GI_rd ok.1 31 _ rfl
        have f_330 : R 0 0 0 := ⟨by decide, by decide⟩
        have f_331 : R 1 1 (mI h 31 l1.toNatClampNeg) := rf_ne_lo f_329 c_322 (by decide) 1 rfl
        refine ⟨fun c_332 => ?_, fun c_332 => ?_⟩
        · have f_333 : R 0 8 (mI h 7 1) := GI_rd ok.1 7 _ (by decide)
          have f_335 : R (-1) (-1) (-1) := ⟨by decide, by decide⟩
          have f_334 : R 0 254 (l1 + (-1)) := R_add fl1 f_335 0 254 (by decide)
          have g_336 := gad_dec (L := 0) fl1 (by decide)
          exact (ih.1) (l1 + (-1)) h  ok (R_w f_334 (by decide)) (by omega)
        · have f_337 : R 0 8 (mI h 7 1) := GI_rd ok.1 7 _ (by decide)
          have f_338 : R 0 7 l2 := rf_lt_l fl2 f_337 (nle c_332) 7 (by decide)
          have f_339 : R 1 8 (mI h 7 1) := rf_lt_r fl2 f_337 (nle c_332) 1 (by decide)
          have f_342 : R 1 128 (1 <<< (l2 &&& 31)) := R_shl f_338 1 128 0 7 (by decide)
          have f_343 : R (-1) (-1) (-1) := ⟨by decide, by decide⟩
          have f_341 : R (-2147483648) 2147483647 ((1 <<< (l2 &&& 31)) ^^^ (-1)) := R_full _
          have f_340 : R 0 255 (l1 &&& ((1 <<< (l2 &&& 31)) ^^^ (-1))) := R_andl fl1 (by decide)
          refine ⟨vin f_340 (by decide), ?_⟩
          have f_345 : R 1 1 1 := ⟨by decide, by decide⟩
          have f_344 : R 1 8 (l2 + 1) := R_add f_338 f_345 1 8 (by decide)
          have f_346 : R 1 1 1 := ⟨by decide, by decide⟩
          have ok_347 := Ok_w ok (k := 31) (j := (l1 &&& ((1 <<< (l2 &&& 31)) ^^^ (-1))).toNatClampNeg) (v := 1) (lo := 0) (hi := 1) rfl (R_w f_346 (by decide)) (by decide) (nt_k (by decide))
          have g_348 := gap_inc (N := 8) f_338 (by decide)
          exact (ih.2) l1 (l2 + 1) (wI h 31 (l1 &&& ((1 <<< (l2 &&& 31)) ^^^ (-1))).toNatClampNeg 1)  ok_347 (R_w fl1 (by decide)) (R_w f_344 (by decide)) (by omega)
set_option maxRecDepth 100000 in
set_option maxHeartbeats 4000000 in
theorem s_X5_spread {g : gT} {h : mh_T} {P : mh_T → Prop}  (hG : GI h)  (hp : ∀ h', Ok [31] h h' → P h') : MCv g yX5_spread uX5_spread [.ref 7] h P := by
  have ok : Ok [31] h h := Ok_rf hG
  have L0 := s_X5_spread_L (g := g) hG hp 2560
  refine e_X5_spread   ?_
  intro x1 ex1
  have f_351 : R 0 8 (mI h 7 1) := GI_rd ok.1 7 _ (by decide)
  have f_350 : R 1 256 (1 <<< ((mI h 7 1) &&& 31)) := R_shl f_351 1 256 0 8 (by decide)
  have f_352 : R 1 1 1 := ⟨by decide, by decide⟩
  have f_349 : R 0 255 ((1 <<< ((mI h 7 1) &&& 31)) - 1) := R_sub f_350 f_352 0 255 (by decide)
  have f_353 : R 0 255 x1 := rf_eq f_349 ex1
  have g_354 := gad_le (L := 0) f_353 (m := 255) (by decide)
  exact (L0.1) x1 h  ok (R_w f_353 (by decide)) (by omega)
set_option maxRecDepth 100000 in
set_option maxHeartbeats 4000000 in
theorem s_X5_open_L {g : gT} {h0 : mh_T} {P : mh_T → Prop} (hG0 : GI h0) (hp : ∀ h', Ok [7, 31] h0 h' → P h') : ∀ n : Nat, (∀ (l2 : Int32) (l3 : Int32) (h : mh_T), Ok [7, 31] h0 h → R 0 255 l2 → R 0 256 l3 → 1 * gap 256 l3 + 513 < n → ME g uX5_open 42 [.ref 7, .ref 2, .int l2, .int l3, .retAddr 0] [] h (qV P)) ∧ (∀ (l2 : Int32) (l3 : Int32) (h : mh_T), Ok [7, 31] h0 h → R 0 255 l2 → R 0 512 l3 → 1 * gap 512 l3 + 0 < n → ME g uX5_open 62 [.ref 7, .ref 2, .int l2, .int l3, .retAddr 0] [] h (qV P)) := by
  intro n
  induction n with
  | zero =>
    exact ⟨(fun _ _ _ _ _ _ hm => absurd hm (Nat.not_lt_zero _)), (fun _ _ _ _ _ _ hm => absurd hm (Nat.not_lt_zero _))⟩
  | succ n ih =>
    refine ⟨?_, ?_⟩
    · intro l2 l3 h  ok fl2 fl3     hm
      refine r_X5_open_42 l2 l3  ?_
      refine ⟨fun c_1484 => ?_, fun c_1484 => ?_⟩
      · have f_1485 : R 1 256 l3 := rf_lt_r fl2 fl3 c_1484 1 (by decide)
        have f_1486 : R 0 0 0 := ⟨by decide, by decide⟩
        have f_1487 : R 0 0 0 := ⟨by decide, by decide⟩
        have g_1488 := gap_le (N := 512) f_1487 (m := 512) (by decide)
        exact (ih.2) l2 0 h  ok (R_w fl2 (by decide)) (R_w f_1486 (by decide)) (by omega)
      · have f_1489 : R 0 255 l3 := rf_le_l fl3 fl2 (nlt c_1484) 255 (by decide)
        refine ⟨vin f_1489 (by decide), ?_⟩
        have f_1491 : R 1 1 1 := ⟨by decide, by decide⟩
        have f_1490 : R 1 256 (l3 + 1) := R_add f_1489 f_1491 1 256 (by decide)
        have f_1492 : R 0 0 0 := ⟨by decide, by decide⟩
        have ok_1493 := Ok_w ok (k := 31) (j := l3.toNatClampNeg) (v := 0) (lo := 0) (hi := 1) rfl (R_w f_1492 (by decide)) (by decide) (nt_k (by decide))
        have g_1494 := gap_inc (N := 256) f_1489 (by decide)
        exact (ih.1) l2 (l3 + 1) (wI h 31 l3.toNatClampNeg 0)  ok_1493 (R_w fl2 (by decide)) (R_w f_1490 (by decide)) (by omega)
    · intro l2 l3 h  ok fl2 fl3     hm
      refine r_X5_open_62 l2 l3  ?_
      refine ⟨fun c_1495 => ?_, fun c_1495 => ?_⟩
      · have f_1497 : R 0 9 (mI h 7 0) := GI_rd ok.1 7 _ (by decide)
        have f_1496 : R 1 512 (1 <<< ((mI h 7 0) &&& 31)) := R_shl f_1497 1 512 0 9 (by decide)
        have f_1498 : R 1 512 l3 := rf_le_r f_1496 fl3 c_1495 1 (by decide)
        refine s_X5_spread ok.1 (fun h2 ko_1499 => ?_)
        have ok_1500 := Ok_tr ok ko_1499 (by decide)
        exact hp _ ok_1500
      · have f_1502 : R 0 9 (mI h 7 0) := GI_rd ok.1 7 _ (by decide)
        have f_1501 : R 1 512 (1 <<< ((mI h 7 0) &&& 31)) := R_shl f_1502 1 512 0 9 (by decide)
        have f_1503 : R 0 511 l3 := rf_lt_l fl3 f_1501 (nle c_1495) 511 (by decide)
        refine s_X5_soLines l3 ok.1 (fun r4 f_1504 => ?_)
        refine ⟨vin f_1504 (by decide), ?_⟩
        refine ⟨fun c_1505 => ?_, fun c_1505 => ?_⟩
        · have f_1507 : R 1 1 1 := ⟨by decide, by decide⟩
          have f_1506 : R 1 512 (l3 + 1) := R_add f_1503 f_1507 1 512 (by decide)
          have f_1508 : R 1 1 1 := ⟨by decide, by decide⟩
          have ok_1509 := Ok_w ok (k := 31) (j := r4.toNatClampNeg) (v := 1) (lo := 0) (hi := 1) rfl (R_w f_1508 (by decide)) (by decide) (nt_k (by decide))
          have g_1510 := gap_inc (N := 512) f_1503 (by decide)
          exact (ih.2) l2 (l3 + 1) (wI h 31 r4.toNatClampNeg 1)  ok_1509 (R_w fl2 (by decide)) (R_w f_1506 (by decide)) (by omega)
        · have f_1512 : R 1 1 1 := ⟨by decide, by decide⟩
          have f_1511 : R 1 512 (l3 + 1) := R_add f_1503 f_1512 1 512 (by decide)
          have f_1513 : R 1 1 1 := ⟨by decide, by decide⟩
          have ok_1514 := Ok_w ok (k := 31) (j := r4.toNatClampNeg) (v := 1) (lo := 0) (hi := 1) rfl (R_w f_1513 (by decide)) (by decide) (nt_k (by decide))
          have f_1517 : R (-2147483648) 2147483647 (mI h 7 2) := R_full _
          have f_1516 : R (-2147483648) 2147483647 (mI (wI h 31 r4.toNatClampNeg 1) 7 2) := (rd_ne f_1517 (by decide))
          have f_1518 : R 1 1 1 := ⟨by decide, by decide⟩
          have f_1515 : R (-2147483648) 2147483647 ((mI (wI h 31 r4.toNatClampNeg 1) 7 2) + 1) := R_full _
          have ok_1519 := Ok_w ok_1514 (k := 7) (j := 2) (v := ((mI (wI h 31 r4.toNatClampNeg 1) 7 2) + 1)) (lo := (-2147483648)) (hi := 2147483647) (by decide) f_1515 (by decide) (by decide)
          have f_1523 : R (-2147483648) 2147483647 (mI h 7 3) := R_full _
          have f_1522 : R (-2147483648) 2147483647 (mI (wI h 31 r4.toNatClampNeg 1) 7 3) := (rd_ne f_1523 (by decide))
          have f_1521 : R (-2147483648) 2147483647 (mI (wI (wI h 31 r4.toNatClampNeg 1) 7 2 ((mI (wI h 31 r4.toNatClampNeg 1) 7 2) + 1)) 7 3) := (rd_nj f_1522 (by decide))
          have f_1520 : R (-2147483648) 2147483647 ((mI (wI (wI h 31 r4.toNatClampNeg 1) 7 2 ((mI (wI h 31 r4.toNatClampNeg 1) 7 2) + 1)) 7 3) ||| l3) := R_full _
          have ok_1524 := Ok_w ok_1519 (k := 7) (j := 3) (v := ((mI (wI (wI h 31 r4.toNatClampNeg 1) 7 2 ((mI (wI h 31 r4.toNatClampNeg 1) 7 2) + 1)) 7 3) ||| l3)) (lo := (-2147483648)) (hi := 2147483647) (by decide) f_1520 (by decide) (by decide)
          have f_1529 : R (-2147483648) 2147483647 (mI h 7 4) := R_full _
          have f_1528 : R (-2147483648) 2147483647 (mI (wI h 31 r4.toNatClampNeg 1) 7 4) := (rd_ne f_1529 (by decide))
          have f_1527 : R (-2147483648) 2147483647 (mI (wI (wI h 31 r4.toNatClampNeg 1) 7 2 ((mI (wI h 31 r4.toNatClampNeg 1) 7 2) + 1)) 7 4) := (rd_nj f_1528 (by decide))
          have f_1526 : R (-2147483648) 2147483647 (mI (wI (wI (wI h 31 r4.toNatClampNeg 1) 7 2 ((mI (wI h 31 r4.toNatClampNeg 1) 7 2) + 1)) 7 3 ((mI (wI (wI h 31 r4.toNatClampNeg 1) 7 2 ((mI (wI h 31 r4.toNatClampNeg 1) 7 2) + 1)) 7 3) ||| l3)) 7 4) := (rd_nj f_1527 (by decide))
          have f_1531 : R (-1) (-1) (-1) := ⟨by decide, by decide⟩
          have f_1530 : R (-2147483648) 2147483647 (l3 ^^^ (-1)) := R_full _
          have f_1525 : R (-2147483648) 2147483647 ((mI (wI (wI (wI h 31 r4.toNatClampNeg 1) 7 2 ((mI (wI h 31 r4.toNatClampNeg 1) 7 2) + 1)) 7 3 ((mI (wI (wI h 31 r4.toNatClampNeg 1) 7 2 ((mI (wI h 31 r4.toNatClampNeg 1) 7 2) + 1)) 7 3) ||| l3)) 7 4) ||| (l3 ^^^ (-1))) := R_full _
          have ok_1532 := Ok_w ok_1524 (k := 7) (j := 4) (v := ((mI (wI (wI (wI h 31 r4.toNatClampNeg 1) 7 2 ((mI (wI h 31 r4.toNatClampNeg 1) 7 2) + 1)) 7 3 ((mI (wI (wI h 31 r4.toNatClampNeg 1) 7 2 ((mI (wI h 31 r4.toNatClampNeg 1) 7 2) + 1)) 7 3) ||| l3)) 7 4) ||| (l3 ^^^ (-1)))) (lo := (-2147483648)) (hi := 2147483647) (by decide) f_1525 (by decide) (by decide)
          have g_1533 := gap_inc (N := 512) f_1503 (by decide)
          exact (ih.2) l2 (l3 + 1) (wI (wI (wI (wI h 31 r4.toNatClampNeg 1) 7 2 ((mI (wI h 31 r4.toNatClampNeg 1) 7 2) + 1)) 7 3 ((mI (wI (wI h 31 r4.toNatClampNeg 1) 7 2 ((mI (wI h 31 r4.toNatClampNeg 1) 7 2) + 1)) 7 3) ||| l3)) 7 4 ((mI (wI (wI (wI h 31 r4.toNatClampNeg 1) 7 2 ((mI (wI h 31 r4.toNatClampNeg 1) 7 2) + 1)) 7 3 ((mI (wI (wI h 31 r4.toNatClampNeg 1) 7 2 ((mI (wI h 31 r4.toNatClampNeg 1) 7 2) + 1)) 7 3) ||| l3)) 7 4) ||| (l3 ^^^ (-1))))  ok_1532 (R_w fl2 (by decide)) (R_w f_1511 (by decide)) (by omega)
set_option maxRecDepth 100000 in
set_option maxHeartbeats 4000000 in
theorem s_X5_open {g : gT} {h : mh_T} {P : mh_T → Prop}  (hG : GI h)  (hp : ∀ h', Ok [7, 31] h h' → P h') : MCv g yX5_open uX5_open [.ref 7, .ref 2] h P := by
  have ok : Ok [7, 31] h h := Ok_rf hG
  have L0 := s_X5_open_L (g := g) hG hp 770
  refine e_X5_open   ?_
  intro x1 ex1
  have f_1541 : R 0 8 (mI h 2 4) := GI_rd ok.1 2 _ (by decide)
  have f_1540 : R 0 8 (mI (wI h 7 0 (mI h 2 2)) 2 4) := (rd_ne f_1541 (by decide))
  have f_1539 : R 0 8 (mI (wI (wI h 7 0 (mI h 2 2)) 7 1 (mI (wI h 7 0 (mI h 2 2)) 2 4)) 7 1) := (rd_eq f_1540)
  have f_1538 : R 0 8 (mI (wI (wI (wI h 7 0 (mI h 2 2)) 7 1 (mI (wI h 7 0 (mI h 2 2)) 2 4)) 7 2 0) 7 1) := (rd_nj f_1539 (by decide))
  have f_1537 : R 0 8 (mI (wI (wI (wI (wI h 7 0 (mI h 2 2)) 7 1 (mI (wI h 7 0 (mI h 2 2)) 2 4)) 7 2 0) 7 3 0) 7 1) := (rd_nj f_1538 (by decide))
  have f_1536 : R 0 8 (mI (wI (wI (wI (wI (wI h 7 0 (mI h 2 2)) 7 1 (mI (wI h 7 0 (mI h 2 2)) 2 4)) 7 2 0) 7 3 0) 7 4 0) 7 1) := (rd_nj f_1537 (by decide))
  have f_1535 : R 1 256 (1 <<< ((mI (wI (wI (wI (wI (wI h 7 0 (mI h 2 2)) 7 1 (mI (wI h 7 0 (mI h 2 2)) 2 4)) 7 2 0) 7 3 0) 7 4 0) 7 1) &&& 31)) := R_shl f_1536 1 256 0 8 (by decide)
  have f_1542 : R 1 1 1 := ⟨by decide, by decide⟩
  have f_1534 : R 0 255 ((1 <<< ((mI (wI (wI (wI (wI (wI h 7 0 (mI h 2 2)) 7 1 (mI (wI h 7 0 (mI h 2 2)) 2 4)) 7 2 0) 7 3 0) 7 4 0) 7 1) &&& 31)) - 1) := R_sub f_1535 f_1542 0 255 (by decide)
  have f_1543 : R 0 255 x1 := rf_eq f_1534 ex1
  have f_1544 : R 0 0 0 := ⟨by decide, by decide⟩
  have f_1545 : R 0 9 (mI h 2 2) := GI_rd ok.1 2 _ (by decide)
  have ok_1546 := Ok_w ok (k := 7) (j := 0) (v := (mI h 2 2)) (lo := 0) (hi := 9) (by decide) f_1545 (by decide) (by decide)
  have ok_1547 := Ok_w ok_1546 (k := 7) (j := 1) (v := (mI (wI h 7 0 (mI h 2 2)) 2 4)) (lo := 0) (hi := 8) (by decide) f_1540 (by decide) (by decide)
  have f_1548 : R 0 0 0 := ⟨by decide, by decide⟩
  have ok_1549 := Ok_w ok_1547 (k := 7) (j := 2) (v := 0) (lo := (-2147483648)) (hi := 2147483647) (by decide) (R_w f_1548 (by decide)) (by decide) (by decide)
  have f_1550 : R 0 0 0 := ⟨by decide, by decide⟩
  have ok_1551 := Ok_w ok_1549 (k := 7) (j := 3) (v := 0) (lo := (-2147483648)) (hi := 2147483647) (by decide) (R_w f_1550 (by decide)) (by decide) (by decide)
  have f_1552 : R 0 0 0 := ⟨by decide, by decide⟩
  have ok_1553 := Ok_w ok_1551 (k := 7) (j := 4) (v := 0) (lo := (-2147483648)) (hi := 2147483647) (by decide) (R_w f_1552 (by decide)) (by decide) (by decide)
  have f_1554 : R 0 0 0 := ⟨by decide, by decide⟩
  have g_1555 := gap_le (N := 256) f_1554 (m := 256) (by decide)
  exact (L0.1) x1 0 (wI (wI (wI (wI (wI h 7 0 (mI h 2 2)) 7 1 (mI (wI h 7 0 (mI h 2 2)) 2 4)) 7 2 0) 7 3 0) 7 4 0)  ok_1553 (R_w f_1543 (by decide)) (R_w f_1544 (by decide)) (by omega)
set_option maxRecDepth 100000 in
set_option maxHeartbeats 4000000 in
theorem s_X5_holds {g : gT} {h : mh_T} {P : Int32 → mh_T → Prop} (l1 : Int32) (hG : GI h)  (hp : ∀ r : Int32, R 0 1 r → P r h) : MCi g yX5_holds uX5_holds [.ref 7, .int l1] h P := by
  have ok : Ok [] h h := Ok_rf hG
  refine e_X5_holds l1  ?_
  refine ⟨fun c_25 => ?_, fun c_25 => ?_⟩
  · have f_26 : R 0 0 0 := ⟨by decide, by decide⟩
    have f_27 : R (-2147483648) (-1) l1 := rf_lt_l (R_full l1) f_26 c_25 (-1) (by decide)
    have f_28 : R 0 0 0 := ⟨by decide, by decide⟩
    exact hp _ (R_w f_28 (by decide))
  · have f_29 : R 0 0 0 := ⟨by decide, by decide⟩
    have f_30 : R 0 2147483647 l1 := rf_le_r f_29 (R_full l1) (nlt c_25) 0 (by decide)
    refine ⟨fun c_31 => ?_, fun c_31 => ?_⟩
    · have f_33 : R 0 8 (mI h 7 1) := GI_rd ok.1 7 _ (by decide)
      have f_32 : R 1 256 (1 <<< ((mI h 7 1) &&& 31)) := R_shl f_33 1 256 0 8 (by decide)
      have f_34 : R 1 2147483647 l1 := rf_le_r f_32 f_30 c_31 1 (by decide)
      have f_35 : R 0 0 0 := ⟨by decide, by decide⟩
      exact hp _ (R_w f_35 (by decide))
    · have f_37 : R 0 8 (mI h 7 1) := GI_rd ok.1 7 _ (by decide)
      have f_36 : R 1 256 (1 <<< ((mI h 7 1) &&& 31)) := R_shl f_37 1 256 0 8 (by decide)
      have f_38 : R 0 255 l1 := rf_lt_l f_30 f_36 (nle c_31) 255 (by decide)
      have f_39 : R 0 0 0 := ⟨by decide, by decide⟩
      refine ⟨vin f_38 (by decide), ?_⟩
      refine ⟨fun c_40 => ?_, fun c_40 => ?_⟩
      · have f_41 : R 0 1 (mI h 31 l1.toNatClampNeg) := GI_rd ok.1 31 _ rfl
        have f_42 : R 0 0 0 := ⟨by decide, by decide⟩
        have f_43 : R 0 0 (mI h 31 l1.toNatClampNeg) := rf_eq f_42 c_40
        have f_44 : R 0 0 0 := ⟨by decide, by decide⟩
        exact hp _ (R_w f_44 (by decide))
      · have f_45 : R 0 1 (mI h 31 l1.toNatClampNeg) := GI_rd ok.1 31 _ rfl
        have f_46 : R 0 0 0 := ⟨by decide, by decide⟩
        have f_47 : R 1 1 (mI h 31 l1.toNatClampNeg) := rf_ne_lo f_45 c_40 (by decide) 1 rfl
        have f_48 : R 1 1 1 := ⟨by decide, by decide⟩
        exact hp _ (R_w f_48 (by decide))
set_option maxRecDepth 100000 in
set_option maxHeartbeats 4000000 in
theorem s_X5_valueOf {g : gT} {h : mh_T} {P : Int32 → mh_T → Prop} (l1 : Int32) (hG : GI h)  (hp : ∀ r : Int32, R (-2) 1 r → P r h) : MCi g yX5_valueOf uX5_valueOf [.ref 7, .int l1] h P := by
  have ok : Ok [] h h := Ok_rf hG
  refine e_X5_valueOf l1  ?_
  refine ⟨fun c_32 => ?_, fun c_32 => ?_⟩
  · have f_34 : R 1 1 1 := ⟨by decide, by decide⟩
    have f_33 : R 0 1 (((mI h 7 3) >>> (l1 &&& 31)) &&& 1) := R_and f_34 (by decide)
    have f_35 : R 0 0 0 := ⟨by decide, by decide⟩
    have f_36 : R 0 0 (((mI h 7 3) >>> (l1 &&& 31)) &&& 1) := rf_eq f_35 c_32
    refine ⟨fun c_37 => ?_, fun c_37 => ?_⟩
    · have f_39 : R 1 1 1 := ⟨by decide, by decide⟩
      have f_38 : R 0 1 (((mI h 7 4) >>> (l1 &&& 31)) &&& 1) := R_and f_39 (by decide)
      have f_40 : R 0 0 0 := ⟨by decide, by decide⟩
      have f_41 : R 0 0 (((mI h 7 4) >>> (l1 &&& 31)) &&& 1) := rf_eq f_40 c_37
      have f_42 : R 0 0 0 := ⟨by decide, by decide⟩
      exact hp _ (R_w f_42 (by decide))
    · have f_44 : R 1 1 1 := ⟨by decide, by decide⟩
      have f_43 : R 0 1 (((mI h 7 4) >>> (l1 &&& 31)) &&& 1) := R_and f_44 (by decide)
      have f_45 : R 0 0 0 := ⟨by decide, by decide⟩
      have f_46 : R 1 1 (((mI h 7 4) >>> (l1 &&& 31)) &&& 1) := rf_ne_lo f_43 c_37 (by decide) 1 rfl
      have f_47 : R 0 0 0 := ⟨by decide, by decide⟩
      exact hp _ (R_w f_47 (by decide))
  · have f_49 : R 1 1 1 := ⟨by decide, by decide⟩
    have f_48 : R 0 1 (((mI h 7 3) >>> (l1 &&& 31)) &&& 1) := R_and f_49 (by decide)
    have f_50 : R 0 0 0 := ⟨by decide, by decide⟩
    have f_51 : R 1 1 (((mI h 7 3) >>> (l1 &&& 31)) &&& 1) := rf_ne_lo f_48 c_32 (by decide) 1 rfl
    refine ⟨fun c_52 => ?_, fun c_52 => ?_⟩
    · have f_54 : R 1 1 1 := ⟨by decide, by decide⟩
      have f_53 : R 0 1 (((mI h 7 4) >>> (l1 &&& 31)) &&& 1) := R_and f_54 (by decide)
      have f_55 : R 0 0 0 := ⟨by decide, by decide⟩
      have f_56 : R 0 0 (((mI h 7 4) >>> (l1 &&& 31)) &&& 1) := rf_eq f_55 c_52
      have f_57 : R 1 1 1 := ⟨by decide, by decide⟩
      exact hp _ (R_w f_57 (by decide))
    · have f_59 : R 1 1 1 := ⟨by decide, by decide⟩
      have f_58 : R 0 1 (((mI h 7 4) >>> (l1 &&& 31)) &&& 1) := R_and f_59 (by decide)
      have f_60 : R 0 0 0 := ⟨by decide, by decide⟩
      have f_61 : R 1 1 (((mI h 7 4) >>> (l1 &&& 31)) &&& 1) := rf_ne_lo f_58 c_52 (by decide) 1 rfl
      have f_62 : R (-2) (-2) (-2) := ⟨by decide, by decide⟩
      exact hp _ (R_w f_62 (by decide))
set_option maxRecDepth 100000 in
set_option maxHeartbeats 4000000 in
theorem s_X5_leastBroken_L {g : gT} {h0 : mh_T} {P : Int32 → mh_T → Prop} (hG0 : GI h0) (hp : ∀ r : Int32, R (-2) 255 r → P r h0) : ∀ n : Nat, (∀ (l1 : Int32) (l2 : Int32), R (-2) 255 l1 → R 0 256 l2 → 1 * gap 256 l2 + 0 < n → ME g uX5_leastBroken 5 [.ref 7, .int l1, .int l2] [] h0 (qI P)) := by
  intro n
  induction n with
  | zero =>
    exact (fun _ _ _ _ hm => absurd hm (Nat.not_lt_zero _))
  | succ n ih =>
    intro l1 l2  fl1 fl2     hm
    have ok : Ok [] h0 h0 := Ok_rf hG0
    refine r_X5_leastBroken_5 l1 l2  ?_
    refine ⟨fun c_1284 => ?_, fun c_1284 => ?_⟩
    · have f_1286 : R 0 8 (mI h0 7 1) := GI_rd ok.1 7 _ (by decide)
      have f_1285 : R 1 256 (1 <<< ((mI h0 7 1) &&& 31)) := R_shl f_1286 1 256 0 8 (by decide)
      have f_1287 : R 1 256 l2 := rf_le_r f_1285 fl2 c_1284 1 (by decide)
      exact hp _ (R_w fl1 (by decide))
    · have f_1289 : R 0 8 (mI h0 7 1) := GI_rd ok.1 7 _ (by decide)
      have f_1288 : R 1 256 (1 <<< ((mI h0 7 1) &&& 31)) := R_shl f_1289 1 256 0 8 (by decide)
      have f_1290 : R 0 255 l2 := rf_lt_l fl2 f_1288 (nle c_1284) 255 (by decide)
      refine ⟨vin f_1290 (by decide), ?_⟩
      refine ⟨fun c_1291 => ?_, fun c_1291 => ?_⟩
      · have f_1292 : R 0 1 (mI h0 31 l2.toNatClampNeg) := GI_rd ok.1 31 _ rfl
        have f_1293 : R 0 0 0 := ⟨by decide, by decide⟩
        have f_1294 : R 1 1 (mI h0 31 l2.toNatClampNeg) := rf_ne_lo f_1292 c_1291 (by decide) 1 rfl
        have f_1296 : R 1 1 1 := ⟨by decide, by decide⟩
        have f_1295 : R 1 256 (l2 + 1) := R_add f_1290 f_1296 1 256 (by decide)
        have g_1297 := gap_inc (N := 256) f_1290 (by decide)
        exact ih l1 (l2 + 1)  (R_w fl1 (by decide)) (R_w f_1295 (by decide)) (by omega)
      · have f_1298 : R 0 1 (mI h0 31 l2.toNatClampNeg) := GI_rd ok.1 31 _ rfl
        have f_1299 : R 0 0 0 := ⟨by decide, by decide⟩
        have f_1300 : R 0 0 (mI h0 31 l2.toNatClampNeg) := rf_eq f_1299 c_1291
        refine ⟨fun c_1301 => ?_, fun c_1301 => ?_⟩
        · have f_1302 : R 0 0 0 := ⟨by decide, by decide⟩
          have f_1303 : R (-2) (-1) l1 := rf_lt_l fl1 f_1302 c_1301 (-1) (by decide)
          have f_1305 : R 1 1 1 := ⟨by decide, by decide⟩
          have f_1304 : R 1 256 (l2 + 1) := R_add f_1290 f_1305 1 256 (by decide)
          have g_1306 := gap_inc (N := 256) f_1290 (by decide)
          exact ih l2 (l2 + 1)  (R_w f_1290 (by decide)) (R_w f_1304 (by decide)) (by omega)
        · have f_1307 : R 0 0 0 := ⟨by decide, by decide⟩
          have f_1308 : R 0 255 l1 := rf_le_r f_1307 fl1 (nlt c_1301) 0 (by decide)
          refine s_J6_bitCount_0f7a4 l2 ok.1 (fun r6 f_1309 => ?_)
          refine s_J6_bitCount_0f7a4 l1 ok.1 (fun r8 f_1310 => ?_)
          refine ⟨fun c_1311 => ?_, fun c_1311 => ?_⟩
          · have f_1313 : R 1 1 1 := ⟨by decide, by decide⟩
            have f_1312 : R 1 256 (l2 + 1) := R_add f_1290 f_1313 1 256 (by decide)
            have g_1314 := gap_inc (N := 256) f_1290 (by decide)
            exact ih l1 (l2 + 1)  (R_w f_1308 (by decide)) (R_w f_1312 (by decide)) (by omega)
          · have f_1315 : R 0 62 r6 := rf_lt_l f_1309 f_1310 (nle c_1311) 62 (by decide)
            have f_1316 : R 1 63 r8 := rf_lt_r f_1309 f_1310 (nle c_1311) 1 (by decide)
            have f_1318 : R 1 1 1 := ⟨by decide, by decide⟩
            have f_1317 : R 1 256 (l2 + 1) := R_add f_1290 f_1318 1 256 (by decide)
            have g_1319 := gap_inc (N := 256) f_1290 (by decide)
            exact ih l2 (l2 + 1)  (R_w f_1290 (by decide)) (R_w f_1317 (by decide)) (by omega)
set_option maxRecDepth 100000 in
set_option maxHeartbeats 4000000 in
theorem s_X5_leastBroken {g : gT} {h : mh_T} {P : Int32 → mh_T → Prop}  (hG : GI h)  (hp : ∀ r : Int32, R (-2) 255 r → P r h) : MCi g yX5_leastBroken uX5_leastBroken [.ref 7] h P := by
  have ok : Ok [] h h := Ok_rf hG
  have L0 := s_X5_leastBroken_L (g := g) hG hp 257
  refine e_X5_leastBroken   ?_
  have f_1320 : R (-2) (-2) (-2) := ⟨by decide, by decide⟩
  have f_1321 : R 0 0 0 := ⟨by decide, by decide⟩
  have f_1322 : R 0 0 0 := ⟨by decide, by decide⟩
  have g_1323 := gap_le (N := 256) f_1322 (m := 256) (by decide)
  exact L0 (-2) 0  (R_w f_1320 (by decide)) (R_w f_1321 (by decide)) (by omega)
set_option maxRecDepth 100000 in
set_option maxHeartbeats 4000000 in
theorem s_X5_mostHeld_L {g : gT} {h0 : mh_T} {P : Int32 → mh_T → Prop} (hG0 : GI h0) (hp : ∀ r : Int32, R 0 63 r → P r h0) : ∀ n : Nat, (∀ (l1 : Int32) (l2 : Int32), R 0 63 l1 → R 0 256 l2 → 1 * gap 256 l2 + 0 < n → ME g uX5_mostHeld 4 [.ref 7, .int l1, .int l2] [] h0 (qI P)) := by
  intro n
  induction n with
  | zero =>
    exact (fun _ _ _ _ hm => absurd hm (Nat.not_lt_zero _))
  | succ n ih =>
    intro l1 l2  fl1 fl2     hm
    have ok : Ok [] h0 h0 := Ok_rf hG0
    refine r_X5_mostHeld_4 l1 l2  ?_
    refine ⟨fun c_876 => ?_, fun c_876 => ?_⟩
    · have f_878 : R 0 8 (mI h0 7 1) := GI_rd ok.1 7 _ (by decide)
      have f_877 : R 1 256 (1 <<< ((mI h0 7 1) &&& 31)) := R_shl f_878 1 256 0 8 (by decide)
      have f_879 : R 1 256 l2 := rf_le_r f_877 fl2 c_876 1 (by decide)
      exact hp _ (R_w fl1 (by decide))
    · have f_881 : R 0 8 (mI h0 7 1) := GI_rd ok.1 7 _ (by decide)
      have f_880 : R 1 256 (1 <<< ((mI h0 7 1) &&& 31)) := R_shl f_881 1 256 0 8 (by decide)
      have f_882 : R 0 255 l2 := rf_lt_l fl2 f_880 (nle c_876) 255 (by decide)
      refine ⟨vin f_882 (by decide), ?_⟩
      refine ⟨fun c_883 => ?_, fun c_883 => ?_⟩
      · have f_884 : R 0 1 (mI h0 31 l2.toNatClampNeg) := GI_rd ok.1 31 _ rfl
        have f_885 : R 0 0 0 := ⟨by decide, by decide⟩
        have f_886 : R 0 0 (mI h0 31 l2.toNatClampNeg) := rf_eq f_885 c_883
        have f_888 : R 1 1 1 := ⟨by decide, by decide⟩
        have f_887 : R 1 256 (l2 + 1) := R_add f_882 f_888 1 256 (by decide)
        have g_889 := gap_inc (N := 256) f_882 (by decide)
        exact ih l1 (l2 + 1)  (R_w fl1 (by decide)) (R_w f_887 (by decide)) (by omega)
      · have f_890 : R 0 1 (mI h0 31 l2.toNatClampNeg) := GI_rd ok.1 31 _ rfl
        have f_891 : R 0 0 0 := ⟨by decide, by decide⟩
        have f_892 : R 1 1 (mI h0 31 l2.toNatClampNeg) := rf_ne_lo f_890 c_883 (by decide) 1 rfl
        refine s_J6_bitCount_0f7a4 l2 ok.1 (fun r5 f_893 => ?_)
        intro x6 ex6
        have f_894 : R 0 63 (if l1 < r5 then r5 else l1) := R_ite (R_w f_893 (by decide)) (R_w fl1 (by decide))
        have f_895 : R 0 63 x6 := rf_eq f_894 ex6
        have f_897 : R 1 1 1 := ⟨by decide, by decide⟩
        have f_896 : R 1 256 (l2 + 1) := R_add f_882 f_897 1 256 (by decide)
        have g_898 := gap_inc (N := 256) f_882 (by decide)
        exact ih x6 (l2 + 1)  (R_w f_895 (by decide)) (R_w f_896 (by decide)) (by omega)
set_option maxRecDepth 100000 in
set_option maxHeartbeats 4000000 in
theorem s_X5_mostHeld {g : gT} {h : mh_T} {P : Int32 → mh_T → Prop}  (hG : GI h)  (hp : ∀ r : Int32, R 0 63 r → P r h) : MCi g yX5_mostHeld uX5_mostHeld [.ref 7] h P := by
  have ok : Ok [] h h := Ok_rf hG
  have L0 := s_X5_mostHeld_L (g := g) hG hp 257
  refine e_X5_mostHeld   ?_
  have f_899 : R 0 0 0 := ⟨by decide, by decide⟩
  have f_900 : R 0 0 0 := ⟨by decide, by decide⟩
  have f_901 : R 0 0 0 := ⟨by decide, by decide⟩
  have g_902 := gap_le (N := 256) f_901 (m := 256) (by decide)
  exact L0 0 0  (R_w f_899 (by decide)) (R_w f_900 (by decide)) (by omega)
set_option maxRecDepth 100000 in
set_option maxHeartbeats 4000000 in
theorem s_X6_isLetter {g : gT} {h : mh_T} {P : Int32 → mh_T → Prop} (l0 : Int32) (hG : GI h)  (hp : ∀ r : Int32, R 0 1 r → P r h) : MCi g yX6_isLetter uX6_isLetter [.int l0] h P := by
  have ok : Ok [] h h := Ok_rf hG
  refine e_X6_isLetter l0  ?_
  refine ⟨fun c_14 => ?_, fun c_14 => ?_⟩
  · have f_15 : R 97 97 97 := ⟨by decide, by decide⟩
    have f_16 : R (-2147483648) 96 l0 := rf_lt_l (R_full l0) f_15 c_14 96 (by decide)
    have f_17 : R 0 0 0 := ⟨by decide, by decide⟩
    exact hp _ (R_w f_17 (by decide))
  · have f_18 : R 97 97 97 := ⟨by decide, by decide⟩
    have f_19 : R 97 2147483647 l0 := rf_le_r f_18 (R_full l0) (nlt c_14) 97 (by decide)
    refine ⟨fun c_20 => ?_, fun c_20 => ?_⟩
    · have f_21 : R 122 122 122 := ⟨by decide, by decide⟩
      have f_22 : R 123 2147483647 l0 := rf_lt_r f_21 f_19 c_20 123 (by decide)
      have f_23 : R 0 0 0 := ⟨by decide, by decide⟩
      exact hp _ (R_w f_23 (by decide))
    · have f_24 : R 122 122 122 := ⟨by decide, by decide⟩
      have f_25 : R 97 122 l0 := rf_le_l f_19 f_24 (nlt c_20) 122 (by decide)
      have f_26 : R 1 1 1 := ⟨by decide, by decide⟩
      exact hp _ (R_w f_26 (by decide))
set_option maxRecDepth 100000 in
set_option maxHeartbeats 4000000 in
theorem s_X6_isDigit {g : gT} {h : mh_T} {P : Int32 → mh_T → Prop} (l0 : Int32) (hG : GI h)  (hp : ∀ r : Int32, R 0 1 r → P r h) : MCi g yX6_isDigit uX6_isDigit [.int l0] h P := by
  have ok : Ok [] h h := Ok_rf hG
  refine e_X6_isDigit l0  ?_
  refine ⟨fun c_14 => ?_, fun c_14 => ?_⟩
  · have f_15 : R 48 48 48 := ⟨by decide, by decide⟩
    have f_16 : R (-2147483648) 47 l0 := rf_lt_l (R_full l0) f_15 c_14 47 (by decide)
    have f_17 : R 0 0 0 := ⟨by decide, by decide⟩
    exact hp _ (R_w f_17 (by decide))
  · have f_18 : R 48 48 48 := ⟨by decide, by decide⟩
    have f_19 : R 48 2147483647 l0 := rf_le_r f_18 (R_full l0) (nlt c_14) 48 (by decide)
    refine ⟨fun c_20 => ?_, fun c_20 => ?_⟩
    · have f_21 : R 57 57 57 := ⟨by decide, by decide⟩
      have f_22 : R 58 2147483647 l0 := rf_lt_r f_21 f_19 c_20 58 (by decide)
      have f_23 : R 0 0 0 := ⟨by decide, by decide⟩
      exact hp _ (R_w f_23 (by decide))
    · have f_24 : R 57 57 57 := ⟨by decide, by decide⟩
      have f_25 : R 48 57 l0 := rf_le_l f_19 f_24 (nlt c_20) 57 (by decide)
      have f_26 : R 1 1 1 := ⟨by decide, by decide⟩
      exact hp _ (R_w f_26 (by decide))
set_option maxRecDepth 100000 in
set_option maxHeartbeats 4000000 in
theorem s_X6_takeSign {g : gT} {h : mh_T} {P : mh_T → Prop}  (hG : GI h)  (hp : ∀ h', Ok [1] h h' → P h') : MCv g yX6_takeSign uX6_takeSign [.ref 1] h P := by
  have ok : Ok [1] h h := Ok_rf hG
  refine e_X6_takeSign   ?_
  refine ⟨fun c_58 => ?_, fun c_58 => ?_⟩
  · have f_60 : R 0 900 (mI h 1 7) := GI_rd ok.1 1 _ (by decide)
    have f_59 : R 0 900 (mI (wI h 1 8 0) 1 7) := (rd_nj f_60 (by decide))
    have f_62 : R 0 900 (mI h 1 6) := GI_rd ok.1 1 _ (by decide)
    have f_61 : R 0 900 (mI (wI h 1 8 0) 1 6) := (rd_nj f_62 (by decide))
    have f_63 : R 0 0 0 := ⟨by decide, by decide⟩
    have ok_64 := Ok_w ok (k := 1) (j := 8) (v := 0) (lo := (-2147483648)) (hi := 2147483647) (by decide) (R_w f_63 (by decide)) (by decide) (by decide)
    exact hp _ ok_64
  · have f_66 : R 0 900 (mI h 1 7) := GI_rd ok.1 1 _ (by decide)
    have f_65 : R 0 900 (mI (wI h 1 8 0) 1 7) := (rd_nj f_66 (by decide))
    have f_68 : R 0 900 (mI h 1 6) := GI_rd ok.1 1 _ (by decide)
    have f_67 : R 0 900 (mI (wI h 1 8 0) 1 6) := (rd_nj f_68 (by decide))
    have f_69 : R 0 899 (mI (wI h 1 8 0) 1 7) := rf_lt_l f_65 f_67 (nle c_58) 899 (by decide)
    have f_70 : R 1 900 (mI (wI h 1 8 0) 1 6) := rf_lt_r f_65 f_67 (nle c_58) 1 (by decide)
    refine ⟨vin f_69 (by decide), ?_⟩
    intro x3 ex3
    have f_72 : R (-2147483648) 2147483647 (mI h 12 (mI (wI h 1 8 0) 1 7).toNatClampNeg) := R_full _
    have f_71 : R (-2147483648) 2147483647 (mI (wI h 1 8 0) 12 (mI (wI h 1 8 0) 1 7).toNatClampNeg) := (rd_ne f_72 (by decide))
    have f_73 : R (-2147483648) 2147483647 x3 := rf_eq f_71 ex3
    refine ⟨fun c_74 => ?_, fun c_74 => ?_⟩
    · have f_75 : R 59 59 59 := ⟨by decide, by decide⟩
      have f_76 : R 59 59 x3 := rf_eq f_75 c_74
      have f_77 : R 0 0 0 := ⟨by decide, by decide⟩
      have ok_78 := Ok_w ok (k := 1) (j := 8) (v := 0) (lo := (-2147483648)) (hi := 2147483647) (by decide) (R_w f_77 (by decide)) (by decide) (by decide)
      have ok_79 := Ok_w ok_78 (k := 1) (j := 8) (v := x3) (lo := (-2147483648)) (hi := 2147483647) (by decide) (R_w f_76 (by decide)) (by decide) (by decide)
      have f_81 : R 0 899 (mI (wI (wI h 1 8 0) 1 8 x3) 1 7) := (rd_nj f_69 (by decide))
      have f_82 : R 1 1 1 := ⟨by decide, by decide⟩
      have f_80 : R 1 900 ((mI (wI (wI h 1 8 0) 1 8 x3) 1 7) + 1) := R_add f_81 f_82 1 900 (by decide)
      have ok_83 := Ok_w ok_79 (k := 1) (j := 7) (v := ((mI (wI (wI h 1 8 0) 1 8 x3) 1 7) + 1)) (lo := 0) (hi := 900) (by decide) (R_w f_80 (by decide)) (by decide) (by decide)
      exact hp _ ok_83
    · have f_84 : R 59 59 59 := ⟨by decide, by decide⟩
      refine ⟨fun c_85 => ?_, fun c_85 => ?_⟩
      · have f_86 : R 44 44 44 := ⟨by decide, by decide⟩
        have f_87 : R 44 44 x3 := rf_eq f_86 c_85
        have f_88 : R 0 0 0 := ⟨by decide, by decide⟩
        have ok_89 := Ok_w ok (k := 1) (j := 8) (v := 0) (lo := (-2147483648)) (hi := 2147483647) (by decide) (R_w f_88 (by decide)) (by decide) (by decide)
        have ok_90 := Ok_w ok_89 (k := 1) (j := 8) (v := x3) (lo := (-2147483648)) (hi := 2147483647) (by decide) (R_w f_87 (by decide)) (by decide) (by decide)
        have f_92 : R 0 899 (mI (wI (wI h 1 8 0) 1 8 x3) 1 7) := (rd_nj f_69 (by decide))
        have f_93 : R 1 1 1 := ⟨by decide, by decide⟩
        have f_91 : R 1 900 ((mI (wI (wI h 1 8 0) 1 8 x3) 1 7) + 1) := R_add f_92 f_93 1 900 (by decide)
        have ok_94 := Ok_w ok_90 (k := 1) (j := 7) (v := ((mI (wI (wI h 1 8 0) 1 8 x3) 1 7) + 1)) (lo := 0) (hi := 900) (by decide) (R_w f_91 (by decide)) (by decide) (by decide)
        exact hp _ ok_94
      · have f_95 : R 44 44 44 := ⟨by decide, by decide⟩
        refine ⟨fun c_96 => ?_, fun c_96 => ?_⟩
        · have f_97 : R 45 45 45 := ⟨by decide, by decide⟩
          have f_98 : R 0 0 0 := ⟨by decide, by decide⟩
          have ok_99 := Ok_w ok (k := 1) (j := 8) (v := 0) (lo := (-2147483648)) (hi := 2147483647) (by decide) (R_w f_98 (by decide)) (by decide) (by decide)
          have f_100 : R 1 1 1 := ⟨by decide, by decide⟩
          have ok_101 := Ok_w ok_99 (k := 1) (j := 8) (v := 1) (lo := (-2147483648)) (hi := 2147483647) (by decide) (R_w f_100 (by decide)) (by decide) (by decide)
          have f_103 : R 0 899 (mI (wI (wI h 1 8 0) 1 8 1) 1 7) := (rd_nj f_69 (by decide))
          have f_104 : R 1 1 1 := ⟨by decide, by decide⟩
          have f_102 : R 1 900 ((mI (wI (wI h 1 8 0) 1 8 1) 1 7) + 1) := R_add f_103 f_104 1 900 (by decide)
          have ok_105 := Ok_w ok_101 (k := 1) (j := 7) (v := ((mI (wI (wI h 1 8 0) 1 8 1) 1 7) + 1)) (lo := 0) (hi := 900) (by decide) (R_w f_102 (by decide)) (by decide) (by decide)
          exact hp _ ok_105
        · have f_106 : R 45 45 45 := ⟨by decide, by decide⟩
          have f_107 : R 45 45 x3 := rf_eq f_106 c_96
          have f_108 : R 0 0 0 := ⟨by decide, by decide⟩
          have ok_109 := Ok_w ok (k := 1) (j := 8) (v := 0) (lo := (-2147483648)) (hi := 2147483647) (by decide) (R_w f_108 (by decide)) (by decide) (by decide)
          have ok_110 := Ok_w ok_109 (k := 1) (j := 8) (v := x3) (lo := (-2147483648)) (hi := 2147483647) (by decide) (R_w f_107 (by decide)) (by decide) (by decide)
          have f_112 : R 0 899 (mI (wI (wI h 1 8 0) 1 8 x3) 1 7) := (rd_nj f_69 (by decide))
          have f_113 : R 1 1 1 := ⟨by decide, by decide⟩
          have f_111 : R 1 900 ((mI (wI (wI h 1 8 0) 1 8 x3) 1 7) + 1) := R_add f_112 f_113 1 900 (by decide)
          have ok_114 := Ok_w ok_110 (k := 1) (j := 7) (v := ((mI (wI (wI h 1 8 0) 1 8 x3) 1 7) + 1)) (lo := 0) (hi := 900) (by decide) (R_w f_111 (by decide)) (by decide) (by decide)
          exact hp _ ok_114
set_option maxRecDepth 100000 in
set_option maxHeartbeats 4000000 in
theorem s_X6_next_L {g : gT} {h0 : mh_T} {P : mh_T → Prop} (hp : ∀ h', Ok [1] h0 h' → P h') : ∀ (n : Nat) (h : mh_T), Ok [1] h0 h → gap 900 (mI h 1 7) < n → ME g uX6_next 156 [.ref 1] [] h (qV P) ∧ ME g uX6_next 56 [.ref 1] [] h (qV P) := by
  intro n
  induction n with
  | zero => intro h _ hn; exact absurd hn (Nat.not_lt_zero _)
  | succ n ih =>
    intro h ok hn
    have f1 : R 1 1 1 := ⟨by decide, by decide⟩
    have f6 : R 0 900 (mI h 1 6) := GI_rd ok.1 1 6 (by decide)
    have f7 : R 0 900 (mI h 1 7) := GI_rd ok.1 1 7 (by decide)
    have w8 : ∀ v : Int32, P (wI h 1 8 v) := fun v => hp _ (Ok_w ok (k := 1) (j := 8) (v := v) (lo := -2147483648) (hi := 2147483647) (by decide) (R_full _) (by decide) (by decide))
    have fin : ∀ k : mh_T, Ok [1] h0 k → mI k 1 7 = mI h 1 7 → ¬ mI h 1 6 ≤ mI h 1 7 → Ok [1] h0 (wI k 1 7 (mI k 1 7 + 1)) ∧ gap 900 (mI (wI k 1 7 (mI k 1 7 + 1)) 1 7) < n := by
      intro k kO ke c
      have g7 : R 0 899 (mI k 1 7) := by rw [ke]; exact rf_lt_l f7 f6 (nle c) 899 (by decide)
      have gi := gap_inc (N := 900) g7 (by decide)
      refine ⟨Ok_w kO (k := 1) (j := 7) (lo := 0) (hi := 900) (by decide) (R_add g7 f1 0 900 (by decide)) (by decide) (by decide), ?_⟩
      rw [mI_wI, if_pos ⟨rfl, rfl⟩]
      rw [← ke] at hn
      omega
    have g7 : ¬ mI h 1 6 ≤ mI h 1 7 → R 0 899 (mI h 1 7) := fun c => rf_lt_l f7 f6 (nle c) 899 (by decide)
    have a156 : ME g uX6_next 156 [.ref 1] [] h (qV P) := by
      have sg : (mI h 1 7) ≤ (mI h 1 9) → MCv g yX6_takeSign uX6_takeSign [.ref 1] h (fun h3 => P h3) := fun _ => s_X6_takeSign ok.1 (fun h' k => hp _ (Ok_tr ok k (by decide)))
      refine r_X6_next_156 ⟨fun c => ⟨sg, fun _ => ⟨fun _ => w8 _, fun _ => w8 _⟩⟩, fun c => ⟨vin (g7 c) (by decide), ?_⟩⟩
      refine s_X6_isDigit _ ok.1 (fun r _ => ⟨fun _ => ⟨sg, fun _ => ⟨fun _ => w8 _, fun _ => w8 _⟩⟩, fun _ => ⟨vin (g7 c) (by decide), ?_⟩⟩)
      have o1 := Ok_w ok (k := 1) (j := 11) (v := (((10 * (mI h 1 11)) + (mI h 12 (mI h 1 7).toNatClampNeg)) - 48)) (lo := -2147483648) (hi := 2147483647) (by decide) (R_full _) (by decide) (by decide)
      have o2 := fin _ o1 (by rw [mI_wI, if_neg (by decide)]) c
      exact (ih _ o2.1 o2.2).1
    have a56 : ME g uX6_next 56 [.ref 1] [] h (qV P) := by
      refine r_X6_next_56 ⟨fun c => ⟨fun _ => a156, fun _ => ⟨fun _ => w8 _, fun _ => w8 _⟩⟩, fun c => ⟨vin (g7 c) (by decide), ?_⟩⟩
      refine s_X6_isLetter _ ok.1 (fun r _ => ⟨fun _ => ⟨fun _ => a156, fun _ => ⟨fun _ => w8 _, fun _ => w8 _⟩⟩, fun _ => ⟨vin (g7 c) (by decide), ?_⟩⟩)
      have o1 := Ok_wL ok (k := 1) (j := 10) (v := (((mL h 1 10) <<< (Int32.toInt64 5 &&& 63)) ||| (Int32.toInt64 (((mI h 12 (mI h 1 7).toNatClampNeg) - 97) + 1)))) (by decide)
      have o2 := fin _ o1 rfl c
      exact (ih _ o2.1 o2.2).2
    exact ⟨a156, a56⟩
set_option maxRecDepth 100000 in
theorem s_X6_next_V {g : gT} {h0 : mh_T} {P : mh_T → Prop} (hp : ∀ h', Ok [1] h0 h' → P h') : ∀ (n : Nat) (h : mh_T), Ok [1] h0 h → gap 900 (mI h 1 7) ≤ n → ((mI h 1 6) ≤ (mI h 1 7) → ME g uX6_next 56 [.ref 1] [] (wI (wL (wI h 1 9 (mI h 1 7)) 1 10 0) 1 11 0) (qV P)) ∧ (¬ (mI h 1 6) ≤ (mI h 1 7) → (vp_in (mI h 1 7) 900) ∧ ((¬ (mI h 12 (mI h 1 7).toNatClampNeg) = 32 → ME g uX6_next 56 [.ref 1] [] (wI (wL (wI h 1 9 (mI h 1 7)) 1 10 0) 1 11 0) (qV P)) ∧ ((mI h 12 (mI h 1 7).toNatClampNeg) = 32 → ME g uX6_next 0 [.ref 1] [] (wI h 1 7 ((mI h 1 7) + 1)) (qV P)))) := by
  intro n
  induction n with
  | zero =>
    intro h ok hn
    have f6 : R 0 900 (mI h 1 6) := GI_rd ok.1 1 6 (by decide)
    have f7 : R 0 900 (mI h 1 7) := GI_rd ok.1 1 7 (by decide)
    have hn : (900 - (mI h 1 7).toInt).toNat ≤ 0 := hn
    refine ⟨fun _ => ?_, fun c => ?_⟩
    · have o1 := Ok_w ok (k := 1) (j := 9) (v := mI h 1 7) (lo := 0) (hi := 900) (by decide) f7 (by decide) (by decide)
      have o2 := Ok_wL o1 (k := 1) (j := 10) (v := 0) (by decide)
      have o3 := Ok_w o2 (k := 1) (j := 11) (v := 0) (lo := -2147483648) (hi := 2147483647) (by decide) (R_full _) (by decide) (by decide)
      exact (s_X6_next_L hp _ _ o3 (Nat.lt_succ_self _)).2
    · have := lt_ti (nle c)
      have := f6.2
      omega
  | succ n ih =>
    intro h ok hn
    have f1 : R 1 1 1 := ⟨by decide, by decide⟩
    have f6 : R 0 900 (mI h 1 6) := GI_rd ok.1 1 6 (by decide)
    have f7 : R 0 900 (mI h 1 7) := GI_rd ok.1 1 7 (by decide)
    have o1 := Ok_w ok (k := 1) (j := 9) (v := mI h 1 7) (lo := 0) (hi := 900) (by decide) f7 (by decide) (by decide)
    have o2 := Ok_wL o1 (k := 1) (j := 10) (v := 0) (by decide)
    have o3 := Ok_w o2 (k := 1) (j := 11) (v := 0) (lo := -2147483648) (hi := 2147483647) (by decide) (R_full _) (by decide) (by decide)
    have a := (s_X6_next_L (g := g) hp _ _ o3 (Nat.lt_succ_self _)).2
    refine ⟨fun _ => a, fun c => ?_⟩
    have g7 : R 0 899 (mI h 1 7) := rf_lt_l f7 f6 (nle c) 899 (by decide)
    refine ⟨vin g7 (by decide), fun _ => a, fun _ => ?_⟩
    have gi := gap_inc (N := 900) g7 (by decide)
    have o4 := Ok_w ok (k := 1) (j := 7) (v := mI h 1 7 + 1) (lo := 0) (hi := 900) (by decide) (R_add g7 f1 0 900 (by decide)) (by decide) (by decide)
    refine r_X6_next_0 (ih _ o4 ?_)
    rw [mI_wI, if_pos ⟨rfl, rfl⟩]
    omega
set_option maxRecDepth 100000 in
theorem s_X6_next {g : gT} {h : mh_T} {P : mh_T → Prop} (hG : GI h) (hp : ∀ h', Ok [1] h h' → P h') : MCv g yX6_next uX6_next [.ref 1] h P :=
  e_X6_next (s_X6_next_V hp _ h (Ok_rf hG) (Nat.le_refl _))
theorem js_len : ∀ l, l < nJS → ((Int32.ofNat (lenJS.getD l 0)) >>> ((0 : Int32) &&& 31)) = Int32.ofNat (lenJS.getD l 0) ∧ 2 ≤ lenJS.getD l 0 ∧ lenJS.getD l 0 ≤ 5 := by decide
theorem s_J0_length {g : gT} {h : mh_T} {P : Int32 → mh_T → Prop} (l0 : Nat) (sl0 : l0 < nJS) (hp : ∀ r : Int32, r.toInt = lenJS.getD l0 0 → R 2 5 r → P r h) : MCi g yJ0_length_8abf5 uJ0_length_8abf5 [.ref (1000 + l0)] h P := by
  refine e_J0_length_8abf5 l0 sl0 ?_
  refine e_J0_coder_7d493 l0 sl0 ⟨rfl, ?_⟩
  obtain ⟨e, h1, h2⟩ := js_len l0 sl0
  rw [e]
  have t : (Int32.ofNat (lenJS.getD l0 0)).toInt = lenJS.getD l0 0 := by
    have : ∀ n, n ≤ 5 → (Int32.ofNat n).toInt = n := by decide
    exact this _ h2
  exact hp _ t ⟨by omega, by omega⟩
/-- the byte at a place of a word -/
def chJS (l i : Nat) : Int32 := (Int32.toUInt32 (((bytJS.getD l []).getD i 0) &&& 255) % 65536).toInt32
theorem ch_narrow : ∀ l, l < nJS → ∀ i, i < 5 → i < lenJS.getD l 0 → narrow .char (.int (chJS l i)) = .int (chJS l i) := by
  intro l hl i hi hh
  have hl : l = 0 ∨ l = 1 ∨ l = 2 ∨ l = 3 ∨ l = 4 ∨ l = 5 ∨ l = 6 ∨ l = 7 ∨ l = 8 ∨ l = 9 ∨ l = 10 ∨ l = 11 := by
    have : l < 12 := hl
    omega
  have hi : i = 0 ∨ i = 1 ∨ i = 2 ∨ i = 3 ∨ i = 4 := by omega
  rcases hl with e | e | e | e | e | e | e | e | e | e | e | e <;> subst e <;> rcases hi with e | e | e | e | e <;> subst e <;> first | rfl | exact absurd hh (by decide)
theorem s_J0_charAt {g : gT} {h : mh_T} {P : Int32 → mh_T → Prop} (l0 : Nat) (l1 : Int32) (sl0 : l0 < nJS) (f1 : 0 ≤ l1.toInt ∧ l1.toInt < lenJS.getD l0 0) (hp : P (chJS l0 l1.toNatClampNeg) h) : MCi g yJ0_charAt_5068e uJ0_charAt_5068e [.ref (1000 + l0), .int l1] h P := by
  obtain ⟨e, h1, h2⟩ := js_len l0 sl0
  have hi : l1.toNatClampNeg < lenJS.getD l0 0 := by
    show l1.toInt.toNat < _
    omega
  have t : (Int32.ofNat (lenJS.getD l0 0)).toInt = lenJS.getD l0 0 := by
    have : ∀ n, n ≤ 5 → (Int32.ofNat n).toInt = n := by decide
    exact this _ h2
  have z0 : (0 : Int32).toInt = 0 := by decide
  have nw := ch_narrow l0 sl0 _ (by omega) hi
  refine e_J0_charAt_5068e l0 l1 sl0 ?_
  refine e_J0_isLatin1_aae02 l0 sl0 ⟨fun z => absurd z (by decide), fun _ => ?_⟩
  refine e_J1_charAt_3b067 l0 l1 sl0 ?_
  refine e_J0_checkIndex_df160 _ _ ?_
  refine e_J3_checkIndex_8e157 _ _ ⟨fun c => ?_, fun c => ⟨fun c => ⟨vp_in_iff.mpr f1, nw, nw, hp⟩, fun c => ?_⟩⟩
  · have := lt_ti c
    omega
  · have := le_ti (nlt c)
    omega
set_option maxRecDepth 100000 in
theorem s_X6_says_L {g : gT} {h : mh_T} {P : Int32 → mh_T → Prop} (l1 : Nat) (sl1 : l1 < nJS) (hG : GI h) (hs : (mI h 1 9).toInt + lenJS.getD l1 0 ≤ 900) (hp : ∀ r : Int32, R 0 1 r → P r h) : ∀ (n : Nat) (l2 : Int32), R 0 5 l2 → gap 5 l2 < n → ME g uX6_says 28 [.ref 1, .ref (1000 + l1), .int l2] [] h (qI P) := by
  intro n
  induction n with
  | zero => intro l2 _ hn; exact absurd hn (Nat.not_lt_zero _)
  | succ n ih =>
    intro l2 f2 hn
    refine r_X6_says_28 l1 l2 sl1 ?_
    refine s_J0_length l1 sl1 (fun r er fr => ⟨fun _ => hp 1 ⟨by decide, by decide⟩, fun c => ?_⟩)
    have c := lt_ti (nle c)
    have f0 : R 0 900 (mI h 1 9) := GI_rd hG 1 9 (by decide)
    have g2 : R 0 4 l2 := ⟨f2.1, by have := fr.2; omega⟩
    have fx : R 0 904 (mI h 1 9 + l2) := R_add f0 g2 0 904 (by decide)
    have ex : (mI h 1 9 + l2).toInt = (mI h 1 9).toInt + l2.toInt := by
      have a1 := f0.1
      have a2 := f0.2
      have a3 := g2.1
      have a4 := g2.2
      rw [Int32.toInt_add, bm (by omega) (by omega)]
    have f1 : R 1 1 1 := ⟨by decide, by decide⟩
    have gi := gap_inc (N := 5) g2 (by decide)
    refine ⟨vp_in_iff.mpr ⟨fx.1, by omega⟩, ?_⟩
    refine s_J0_charAt l1 l2 sl1 ⟨f2.1, by omega⟩ ⟨fun _ => ih (l2 + 1) (R_add g2 f1 0 5 (by decide)) (by omega), fun _ => hp 0 ⟨by decide, by decide⟩⟩
set_option maxRecDepth 100000 in
theorem s_X6_says {g : gT} {h : mh_T} {P : Int32 → mh_T → Prop} (l1 : Nat) (sl1 : l1 < nJS) (hG : GI h) (hp : ∀ r : Int32, R 0 1 r → P r h) : MCi g yX6_says uX6_says [.ref 1, .ref (1000 + l1)] h P := by
  refine e_X6_says l1 sl1 ⟨fun _ => hp 0 ⟨by decide, by decide⟩, fun _ => ?_⟩
  refine s_J0_length l1 sl1 (fun r er fr => ⟨fun c => ?_, fun _ => hp 0 ⟨by decide, by decide⟩⟩)
  have f7 : R 0 900 (mI h 1 7) := GI_rd hG 1 7 (by decide)
  have f9 : R 0 900 (mI h 1 9) := GI_rd hG 1 9 (by decide)
  have es : (mI h 1 7 - mI h 1 9).toInt = (mI h 1 7).toInt - (mI h 1 9).toInt := by
    have a1 := f7.1
    have a2 := f7.2
    have a3 := f9.1
    have a4 := f9.2
    rw [Int32.toInt_sub, bm (by omega) (by omega)]
  rw [c] at es
  have := f7.2
  exact s_X6_says_L l1 sl1 hG (by omega) hp 6 0 ⟨by decide, by decide⟩ (by decide)
set_option maxRecDepth 100000 in
set_option maxHeartbeats 4000000 in
theorem s_X6_refuse {g : gT} {h : mh_T} {P : Int32 → mh_T → Prop} (l1 : Int32) (hG : GI h)  (hp : ∀ (r : Int32) h', Ok [1] h h' → R 0 0 r → P r h') : MCi g yX6_refuse uX6_refuse [.ref 1, .int l1] h P := by
  have ok : Ok [1] h h := Ok_rf hG
  refine e_X6_refuse l1  ?_
  have ok_6 := Ok_w ok (k := 1) (j := 1) (v := l1) (lo := (-2147483648)) (hi := 2147483647) (by decide) (R_full l1) (by decide) (by decide)
  have f_8 : R 0 900 (mI h 1 9) := GI_rd ok.1 1 _ (by decide)
  have f_7 : R 0 900 (mI (wI h 1 1 l1) 1 9) := (rd_nj f_8 (by decide))
  have ok_9 := Ok_w ok_6 (k := 1) (j := 2) (v := (mI (wI h 1 1 l1) 1 9)) (lo := (-2147483648)) (hi := 2147483647) (by decide) (R_w f_7 (by decide)) (by decide) (by decide)
  have f_10 : R 0 0 0 := ⟨by decide, by decide⟩
  exact hp _ _ ok_9 (R_w f_10 (by decide))
set_option maxRecDepth 100000 in
set_option maxHeartbeats 4000000 in
theorem s_X6_passWord {g : gT} {h : mh_T} {P : Int32 → mh_T → Prop} (l1 : Nat) (sl1 : l1 < nJS) (hG : GI h)  (hp : ∀ (r : Int32) h', Ok [1] h h' → R 0 1 r → P r h') : MCi g yX6_passWord uX6_passWord [.ref 1, .ref (1000 + l1)] h P := by
  have ok : Ok [1] h h := Ok_rf hG
  refine e_X6_passWord l1 sl1 ?_
  refine s_X6_says l1 sl1 ok.1 (fun r2 f_13 => ?_)
  refine ⟨fun c_14 => ?_, fun c_14 => ?_⟩
  · have f_15 : R 0 0 0 := ⟨by decide, by decide⟩
    have f_16 : R 1 1 r2 := rf_ne_lo f_13 c_14 (by decide) 1 rfl
    refine s_X6_next ok.1 (fun h4 ko_17 => ?_)
    have ok_18 := Ok_tr ok ko_17 (by decide)
    have f_19 : R 1 1 1 := ⟨by decide, by decide⟩
    exact hp _ _ ok_18 (R_w f_19 (by decide))
  · have f_20 : R 0 0 0 := ⟨by decide, by decide⟩
    have f_21 : R 0 0 r2 := rf_eq f_20 c_14
    refine s_X6_refuse 1 ok.1 (fun r6 h5 ko_22 f_24 => ?_)
    have ok_23 := Ok_tr ok ko_22 (by decide)
    exact ⟨R_z (R_w f_24 (by decide)), hp _ _ ok_23 (R_w f_24 (by decide))⟩
set_option maxRecDepth 100000 in
set_option maxHeartbeats 4000000 in
theorem s_X6_needWhole_v0 {g : gT} {h : mh_T} {P : Int32 → mh_T → Prop} (l1 : Int32) (l2 : Int32) (hG : GI h) (fl1 : R 1 1 l1) (fl2 : R 60 60 l2) (hp : ∀ (r : Int32) h', Ok [1] h h' → R 0 1 r → (¬ r = 0 → R 1 60 (mI h' 1 11)) → P r h') : MCi g yX6_needWhole uX6_needWhole [.ref 1, .int l1, .int l2] h P := by
  have ok : Ok [1] h h := Ok_rf hG
  refine e_X6_needWhole l1 l2  ?_
  refine ⟨fun c_36 => ?_, fun c_36 => ?_⟩
  · have f_37 : R (-2147483648) 2147483647 (mI h 1 8) := R_full _
    have f_38 : R 3 3 3 := ⟨by decide, by decide⟩
    have f_39 : R 3 3 (mI h 1 8) := rf_eq f_38 c_36
    refine ⟨fun c_40 => ?_, fun c_40 => ?_⟩
    · have f_41 : R (-2147483648) 2147483647 (mI h 1 11) := R_full _
      have f_42 : R (-2147483648) 0 (mI h 1 11) := rf_lt_l f_41 fl1 c_40 0 (by decide)
      refine s_X6_refuse 4 ok.1 (fun r4 h3 ko_43 f_45 => ?_)
      have ok_44 := Ok_tr ok ko_43 (by decide)
      refine ⟨fun c_46 => ?_, fun c_46 => ?_⟩
      · have f_47 : R 0 0 0 := ⟨by decide, by decide⟩
        have f_48 : R 0 0 0 := ⟨by decide, by decide⟩
        exact hp _ _ ok_44 (R_w f_48 (by decide)) (fun z => absurd rfl z)
      · have f_49 : R 0 0 0 := ⟨by decide, by decide⟩
        have f_50 : R 1 0 r4 := rf_ne_lo f_45 c_46 (by decide) 1 rfl
        exact (R_abs f_50 (by decide)).elim
    · have f_51 : R (-2147483648) 2147483647 (mI h 1 11) := R_full _
      have f_52 : R 1 2147483647 (mI h 1 11) := rf_le_r fl1 f_51 (nlt c_40) 1 (by decide)
      refine ⟨fun c_53 => ?_, fun c_53 => ?_⟩
      · have f_54 : R 1 60 (mI h 1 11) := rf_le_l f_52 fl2 c_53 60 (by decide)
        have f_55 : R 1 1 1 := ⟨by decide, by decide⟩
        have f_56 : R 1 1 1 := ⟨by decide, by decide⟩
        exact hp _ _ ok (R_w f_55 (by decide)) (fun _ => R_w f_54 (by decide))
      · have f_57 : R 61 2147483647 (mI h 1 11) := rf_lt_r fl2 f_52 (nle c_53) 61 (by decide)
        refine s_X6_refuse 4 ok.1 (fun r8 h7 ko_58 f_60 => ?_)
        have ok_59 := Ok_tr ok ko_58 (by decide)
        refine ⟨fun c_61 => ?_, fun c_61 => ?_⟩
        · have f_62 : R 0 0 0 := ⟨by decide, by decide⟩
          have f_63 : R 0 0 0 := ⟨by decide, by decide⟩
          exact hp _ _ ok_59 (R_w f_63 (by decide)) (fun z => absurd rfl z)
        · have f_64 : R 0 0 0 := ⟨by decide, by decide⟩
          have f_65 : R 1 0 r8 := rf_ne_lo f_60 c_61 (by decide) 1 rfl
          exact (R_abs f_65 (by decide)).elim
  · have f_66 : R (-2147483648) 2147483647 (mI h 1 8) := R_full _
    have f_67 : R 3 3 3 := ⟨by decide, by decide⟩
    refine s_X6_refuse 1 ok.1 (fun r11 h10 ko_68 f_70 => ?_)
    have ok_69 := Ok_tr ok ko_68 (by decide)
    exact ⟨R_z (R_w f_70 (by decide)), hp _ _ ok_69 (R_w f_70 (by decide)) (fun z => absurd (R_zero f_70) z)⟩
set_option maxRecDepth 100000 in
set_option maxHeartbeats 4000000 in
theorem s_X6_needWhole_v1 {g : gT} {h : mh_T} {P : Int32 → mh_T → Prop} (l1 : Int32) (l2 : Int32) (hG : GI h) (fl1 : R 0 0 l1) (fl2 : R 60 60 l2) (hp : ∀ (r : Int32) h', Ok [1] h h' → R 0 1 r → (¬ r = 0 → R 0 60 (mI h' 1 11)) → P r h') : MCi g yX6_needWhole uX6_needWhole [.ref 1, .int l1, .int l2] h P := by
  have ok : Ok [1] h h := Ok_rf hG
  refine e_X6_needWhole l1 l2  ?_
  refine ⟨fun c_36 => ?_, fun c_36 => ?_⟩
  · have f_37 : R (-2147483648) 2147483647 (mI h 1 8) := R_full _
    have f_38 : R 3 3 3 := ⟨by decide, by decide⟩
    have f_39 : R 3 3 (mI h 1 8) := rf_eq f_38 c_36
    refine ⟨fun c_40 => ?_, fun c_40 => ?_⟩
    · have f_41 : R (-2147483648) 2147483647 (mI h 1 11) := R_full _
      have f_42 : R (-2147483648) (-1) (mI h 1 11) := rf_lt_l f_41 fl1 c_40 (-1) (by decide)
      refine s_X6_refuse 4 ok.1 (fun r4 h3 ko_43 f_45 => ?_)
      have ok_44 := Ok_tr ok ko_43 (by decide)
      refine ⟨fun c_46 => ?_, fun c_46 => ?_⟩
      · have f_47 : R 0 0 0 := ⟨by decide, by decide⟩
        have f_48 : R 0 0 0 := ⟨by decide, by decide⟩
        exact hp _ _ ok_44 (R_w f_48 (by decide)) (fun z => absurd rfl z)
      · have f_49 : R 0 0 0 := ⟨by decide, by decide⟩
        have f_50 : R 1 0 r4 := rf_ne_lo f_45 c_46 (by decide) 1 rfl
        exact (R_abs f_50 (by decide)).elim
    · have f_51 : R (-2147483648) 2147483647 (mI h 1 11) := R_full _
      have f_52 : R 0 2147483647 (mI h 1 11) := rf_le_r fl1 f_51 (nlt c_40) 0 (by decide)
      refine ⟨fun c_53 => ?_, fun c_53 => ?_⟩
      · have f_54 : R 0 60 (mI h 1 11) := rf_le_l f_52 fl2 c_53 60 (by decide)
        have f_55 : R 1 1 1 := ⟨by decide, by decide⟩
        have f_56 : R 1 1 1 := ⟨by decide, by decide⟩
        exact hp _ _ ok (R_w f_55 (by decide)) (fun _ => R_w f_54 (by decide))
      · have f_57 : R 61 2147483647 (mI h 1 11) := rf_lt_r fl2 f_52 (nle c_53) 61 (by decide)
        refine s_X6_refuse 4 ok.1 (fun r8 h7 ko_58 f_60 => ?_)
        have ok_59 := Ok_tr ok ko_58 (by decide)
        refine ⟨fun c_61 => ?_, fun c_61 => ?_⟩
        · have f_62 : R 0 0 0 := ⟨by decide, by decide⟩
          have f_63 : R 0 0 0 := ⟨by decide, by decide⟩
          exact hp _ _ ok_59 (R_w f_63 (by decide)) (fun z => absurd rfl z)
        · have f_64 : R 0 0 0 := ⟨by decide, by decide⟩
          have f_65 : R 1 0 r8 := rf_ne_lo f_60 c_61 (by decide) 1 rfl
          exact (R_abs f_65 (by decide)).elim
  · have f_66 : R (-2147483648) 2147483647 (mI h 1 8) := R_full _
    have f_67 : R 3 3 3 := ⟨by decide, by decide⟩
    refine s_X6_refuse 1 ok.1 (fun r11 h10 ko_68 f_70 => ?_)
    have ok_69 := Ok_tr ok ko_68 (by decide)
    exact ⟨R_z (R_w f_70 (by decide)), hp _ _ ok_69 (R_w f_70 (by decide)) (fun z => absurd (R_zero f_70) z)⟩
set_option maxRecDepth 100000 in
set_option maxHeartbeats 4000000 in
theorem s_X6_needWhole_v2 {g : gT} {h : mh_T} {P : Int32 → mh_T → Prop} (l1 : Int32) (l2 : Int32) (hG : GI h) (fl1 : R 0 0 l1) (fl2 : R 3 3 l2) (hp : ∀ (r : Int32) h', Ok [1] h h' → R 0 1 r → (¬ r = 0 → R 0 3 (mI h' 1 11)) → P r h') : MCi g yX6_needWhole uX6_needWhole [.ref 1, .int l1, .int l2] h P := by
  have ok : Ok [1] h h := Ok_rf hG
  refine e_X6_needWhole l1 l2  ?_
  refine ⟨fun c_36 => ?_, fun c_36 => ?_⟩
  · have f_37 : R (-2147483648) 2147483647 (mI h 1 8) := R_full _
    have f_38 : R 3 3 3 := ⟨by decide, by decide⟩
    have f_39 : R 3 3 (mI h 1 8) := rf_eq f_38 c_36
    refine ⟨fun c_40 => ?_, fun c_40 => ?_⟩
    · have f_41 : R (-2147483648) 2147483647 (mI h 1 11) := R_full _
      have f_42 : R (-2147483648) (-1) (mI h 1 11) := rf_lt_l f_41 fl1 c_40 (-1) (by decide)
      refine s_X6_refuse 4 ok.1 (fun r4 h3 ko_43 f_45 => ?_)
      have ok_44 := Ok_tr ok ko_43 (by decide)
      refine ⟨fun c_46 => ?_, fun c_46 => ?_⟩
      · have f_47 : R 0 0 0 := ⟨by decide, by decide⟩
        have f_48 : R 0 0 0 := ⟨by decide, by decide⟩
        exact hp _ _ ok_44 (R_w f_48 (by decide)) (fun z => absurd rfl z)
      · have f_49 : R 0 0 0 := ⟨by decide, by decide⟩
        have f_50 : R 1 0 r4 := rf_ne_lo f_45 c_46 (by decide) 1 rfl
        exact (R_abs f_50 (by decide)).elim
    · have f_51 : R (-2147483648) 2147483647 (mI h 1 11) := R_full _
      have f_52 : R 0 2147483647 (mI h 1 11) := rf_le_r fl1 f_51 (nlt c_40) 0 (by decide)
      refine ⟨fun c_53 => ?_, fun c_53 => ?_⟩
      · have f_54 : R 0 3 (mI h 1 11) := rf_le_l f_52 fl2 c_53 3 (by decide)
        have f_55 : R 1 1 1 := ⟨by decide, by decide⟩
        have f_56 : R 1 1 1 := ⟨by decide, by decide⟩
        exact hp _ _ ok (R_w f_55 (by decide)) (fun _ => R_w f_54 (by decide))
      · have f_57 : R 4 2147483647 (mI h 1 11) := rf_lt_r fl2 f_52 (nle c_53) 4 (by decide)
        refine s_X6_refuse 4 ok.1 (fun r8 h7 ko_58 f_60 => ?_)
        have ok_59 := Ok_tr ok ko_58 (by decide)
        refine ⟨fun c_61 => ?_, fun c_61 => ?_⟩
        · have f_62 : R 0 0 0 := ⟨by decide, by decide⟩
          have f_63 : R 0 0 0 := ⟨by decide, by decide⟩
          exact hp _ _ ok_59 (R_w f_63 (by decide)) (fun z => absurd rfl z)
        · have f_64 : R 0 0 0 := ⟨by decide, by decide⟩
          have f_65 : R 1 0 r8 := rf_ne_lo f_60 c_61 (by decide) 1 rfl
          exact (R_abs f_65 (by decide)).elim
  · have f_66 : R (-2147483648) 2147483647 (mI h 1 8) := R_full _
    have f_67 : R 3 3 3 := ⟨by decide, by decide⟩
    refine s_X6_refuse 1 ok.1 (fun r11 h10 ko_68 f_70 => ?_)
    have ok_69 := Ok_tr ok ko_68 (by decide)
    exact ⟨R_z (R_w f_70 (by decide)), hp _ _ ok_69 (R_w f_70 (by decide)) (fun z => absurd (R_zero f_70) z)⟩
set_option maxRecDepth 100000 in
set_option maxHeartbeats 4000000 in
theorem s_X6_needWhole_v3 {g : gT} {h : mh_T} {P : Int32 → mh_T → Prop} (l1 : Int32) (l2 : Int32) (hG : GI h) (fl1 : R 0 0 l1) (fl2 : R 1 1 l2) (hp : ∀ (r : Int32) h', Ok [1] h h' → R 0 1 r → (¬ r = 0 → R 0 1 (mI h' 1 11)) → P r h') : MCi g yX6_needWhole uX6_needWhole [.ref 1, .int l1, .int l2] h P := by
  have ok : Ok [1] h h := Ok_rf hG
  refine e_X6_needWhole l1 l2  ?_
  refine ⟨fun c_36 => ?_, fun c_36 => ?_⟩
  · have f_37 : R (-2147483648) 2147483647 (mI h 1 8) := R_full _
    have f_38 : R 3 3 3 := ⟨by decide, by decide⟩
    have f_39 : R 3 3 (mI h 1 8) := rf_eq f_38 c_36
    refine ⟨fun c_40 => ?_, fun c_40 => ?_⟩
    · have f_41 : R (-2147483648) 2147483647 (mI h 1 11) := R_full _
      have f_42 : R (-2147483648) (-1) (mI h 1 11) := rf_lt_l f_41 fl1 c_40 (-1) (by decide)
      refine s_X6_refuse 4 ok.1 (fun r4 h3 ko_43 f_45 => ?_)
      have ok_44 := Ok_tr ok ko_43 (by decide)
      refine ⟨fun c_46 => ?_, fun c_46 => ?_⟩
      · have f_47 : R 0 0 0 := ⟨by decide, by decide⟩
        have f_48 : R 0 0 0 := ⟨by decide, by decide⟩
        exact hp _ _ ok_44 (R_w f_48 (by decide)) (fun z => absurd rfl z)
      · have f_49 : R 0 0 0 := ⟨by decide, by decide⟩
        have f_50 : R 1 0 r4 := rf_ne_lo f_45 c_46 (by decide) 1 rfl
        exact (R_abs f_50 (by decide)).elim
    · have f_51 : R (-2147483648) 2147483647 (mI h 1 11) := R_full _
      have f_52 : R 0 2147483647 (mI h 1 11) := rf_le_r fl1 f_51 (nlt c_40) 0 (by decide)
      refine ⟨fun c_53 => ?_, fun c_53 => ?_⟩
      · have f_54 : R 0 1 (mI h 1 11) := rf_le_l f_52 fl2 c_53 1 (by decide)
        have f_55 : R 1 1 1 := ⟨by decide, by decide⟩
        have f_56 : R 1 1 1 := ⟨by decide, by decide⟩
        exact hp _ _ ok (R_w f_55 (by decide)) (fun _ => R_w f_54 (by decide))
      · have f_57 : R 2 2147483647 (mI h 1 11) := rf_lt_r fl2 f_52 (nle c_53) 2 (by decide)
        refine s_X6_refuse 4 ok.1 (fun r8 h7 ko_58 f_60 => ?_)
        have ok_59 := Ok_tr ok ko_58 (by decide)
        refine ⟨fun c_61 => ?_, fun c_61 => ?_⟩
        · have f_62 : R 0 0 0 := ⟨by decide, by decide⟩
          have f_63 : R 0 0 0 := ⟨by decide, by decide⟩
          exact hp _ _ ok_59 (R_w f_63 (by decide)) (fun z => absurd rfl z)
        · have f_64 : R 0 0 0 := ⟨by decide, by decide⟩
          have f_65 : R 1 0 r8 := rf_ne_lo f_60 c_61 (by decide) 1 rfl
          exact (R_abs f_65 (by decide)).elim
  · have f_66 : R (-2147483648) 2147483647 (mI h 1 8) := R_full _
    have f_67 : R 3 3 3 := ⟨by decide, by decide⟩
    refine s_X6_refuse 1 ok.1 (fun r11 h10 ko_68 f_70 => ?_)
    have ok_69 := Ok_tr ok ko_68 (by decide)
    exact ⟨R_z (R_w f_70 (by decide)), hp _ _ ok_69 (R_w f_70 (by decide)) (fun z => absurd (R_zero f_70) z)⟩
set_option maxRecDepth 100000 in
set_option maxHeartbeats 4000000 in
theorem s_X6_readLaw {g : gT} {h : mh_T} {P : Int32 → mh_T → Prop}  (hG : GI h)  (hp : ∀ (r : Int32) h', Ok [1, 2] h h' → R 0 1 r → P r h') : MCi g yX6_readLaw uX6_readLaw [.ref 1] h P := by
  have ok : Ok [1, 2] h h := Ok_rf hG
  refine e_X6_readLaw   ?_
  refine ⟨fun c_41 => ?_, fun c_41 => ?_⟩
  · have f_42 : R 0 60 (mI h 2 0) := GI_rd ok.1 2 _ (by decide)
    have f_43 : R 0 0 0 := ⟨by decide, by decide⟩
    have f_44 : R 0 0 (mI h 2 0) := rf_eq f_43 c_41
    refine s_X6_next ok.1 (fun h2 ko_45 => ?_)
    have ok_46 := Ok_tr ok ko_45 (by decide)
    refine s_X6_passWord 7 (by decide) ok_46.1 (fun r4 h3 ko_47 f_49 => ?_)
    have ok_48 := Ok_tr ok_46 ko_47 (by decide)
    refine ⟨fun c_50 => ?_, fun c_50 => ?_⟩
    · have f_51 : R 0 0 0 := ⟨by decide, by decide⟩
      have f_52 : R 0 0 r4 := rf_eq f_51 c_50
      have f_53 : R 0 0 0 := ⟨by decide, by decide⟩
      exact hp _ _ ok_48 (R_w f_53 (by decide))
    · have f_54 : R 0 0 0 := ⟨by decide, by decide⟩
      have f_55 : R 1 1 r4 := rf_ne_lo f_49 c_50 (by decide) 1 rfl
      have f_56 : R 1 1 1 := ⟨by decide, by decide⟩
      have f_57 : R 60 60 60 := ⟨by decide, by decide⟩
      have f_58 : R 1 1 1 := ⟨by decide, by decide⟩
      have f_59 : R 60 60 60 := ⟨by decide, by decide⟩
      refine s_X6_needWhole_v0 1 60 ok_48.1 (R_w f_58 (by decide)) (R_w f_59 (by decide)) (fun r7 h6 ko_61 f_63 im_60 => ?_)
      have ok_62 := Ok_tr ok_48 ko_61 (by decide)
      refine ⟨fun c_64 => ?_, fun c_64 => ?_⟩
      · have f_65 : R 0 0 0 := ⟨by decide, by decide⟩
        have f_66 := (im_60 c_64)
        have f_67 : R 1 1 r7 := rf_ne_lo f_63 c_64 (by decide) 1 rfl
        have ok_68 := Ok_w ok_62 (k := 2) (j := 0) (v := (mI h6 1 11)) (lo := 0) (hi := 60) (by decide) (R_w f_66 (by decide)) (by decide) (by decide)
        refine s_X6_next ok_68.1 (fun h9 ko_69 => ?_)
        have ok_70 := Ok_tr ok_68 ko_69 (by decide)
        have f_71 : R 1 1 1 := ⟨by decide, by decide⟩
        exact hp _ _ ok_70 (R_w f_71 (by decide))
      · have f_72 : R 0 0 0 := ⟨by decide, by decide⟩
        have f_73 : R 0 0 r7 := rf_eq f_72 c_64
        have f_74 : R 0 0 0 := ⟨by decide, by decide⟩
        exact hp _ _ ok_62 (R_w f_74 (by decide))
  · have f_75 : R 0 60 (mI h 2 0) := GI_rd ok.1 2 _ (by decide)
    have f_76 : R 0 0 0 := ⟨by decide, by decide⟩
    have f_77 : R 1 60 (mI h 2 0) := rf_ne_lo f_75 c_41 (by decide) 1 rfl
    refine s_X6_refuse 3 ok.1 (fun r11 h10 ko_78 f_80 => ?_)
    have ok_79 := Ok_tr ok ko_78 (by decide)
    exact ⟨R_z (R_w f_80 (by decide)), hp _ _ ok_79 (R_w f_80 (by decide))⟩
set_option maxRecDepth 100000 in
set_option maxHeartbeats 4000000 in
theorem s_X6_isName {g : gT} {h : mh_T} {P : Int32 → mh_T → Prop}  (hG : GI h)  (hp : ∀ (r : Int32) h', Ok [] h h' → R 0 1 r → P r h') : MCi g yX6_isName uX6_isName [.ref 1] h P := by
  have ok : Ok [] h h := Ok_rf hG
  refine e_X6_isName   ?_
  refine ⟨fun c_58 => ?_, fun c_58 => ?_⟩
  · have f_59 : R (-2147483648) 2147483647 (mI h 1 8) := R_full _
    have f_60 : R 2 2 2 := ⟨by decide, by decide⟩
    have f_61 : R 0 0 0 := ⟨by decide, by decide⟩
    exact hp _ _ ok (R_w f_61 (by decide))
  · have f_62 : R (-2147483648) 2147483647 (mI h 1 8) := R_full _
    have f_63 : R 2 2 2 := ⟨by decide, by decide⟩
    have f_64 : R 2 2 (mI h 1 8) := rf_eq f_63 c_58
    refine s_X6_says 0 (by decide) ok.1 (fun r3 f_65 => ?_)
    refine ⟨fun c_66 => ?_, fun c_66 => ?_⟩
    · have f_67 : R 0 0 0 := ⟨by decide, by decide⟩
      have f_68 : R 1 1 r3 := rf_ne_lo f_65 c_66 (by decide) 1 rfl
      have f_69 : R 0 0 0 := ⟨by decide, by decide⟩
      exact hp _ _ ok (R_w f_69 (by decide))
    · have f_70 : R 0 0 0 := ⟨by decide, by decide⟩
      have f_71 : R 0 0 r3 := rf_eq f_70 c_66
      refine s_X6_says 1 (by decide) ok.1 (fun r6 f_72 => ?_)
      refine ⟨fun c_73 => ?_, fun c_73 => ?_⟩
      · have f_74 : R 0 0 0 := ⟨by decide, by decide⟩
        have f_75 : R 1 1 r6 := rf_ne_lo f_72 c_73 (by decide) 1 rfl
        have f_76 : R 0 0 0 := ⟨by decide, by decide⟩
        exact hp _ _ ok (R_w f_76 (by decide))
      · have f_77 : R 0 0 0 := ⟨by decide, by decide⟩
        have f_78 : R 0 0 r6 := rf_eq f_77 c_73
        refine s_X6_says 2 (by decide) ok.1 (fun r9 f_79 => ?_)
        refine ⟨fun c_80 => ?_, fun c_80 => ?_⟩
        · have f_81 : R 0 0 0 := ⟨by decide, by decide⟩
          have f_82 : R 1 1 r9 := rf_ne_lo f_79 c_80 (by decide) 1 rfl
          have f_83 : R 0 0 0 := ⟨by decide, by decide⟩
          exact hp _ _ ok (R_w f_83 (by decide))
        · have f_84 : R 0 0 0 := ⟨by decide, by decide⟩
          have f_85 : R 0 0 r9 := rf_eq f_84 c_80
          refine s_X6_says 3 (by decide) ok.1 (fun r12 f_86 => ?_)
          refine ⟨fun c_87 => ?_, fun c_87 => ?_⟩
          · have f_88 : R 0 0 0 := ⟨by decide, by decide⟩
            have f_89 : R 1 1 r12 := rf_ne_lo f_86 c_87 (by decide) 1 rfl
            have f_90 : R 0 0 0 := ⟨by decide, by decide⟩
            exact hp _ _ ok (R_w f_90 (by decide))
          · have f_91 : R 0 0 0 := ⟨by decide, by decide⟩
            have f_92 : R 0 0 r12 := rf_eq f_91 c_87
            refine s_X6_says 4 (by decide) ok.1 (fun r15 f_93 => ?_)
            refine ⟨fun c_94 => ?_, fun c_94 => ?_⟩
            · have f_95 : R 0 0 0 := ⟨by decide, by decide⟩
              have f_96 : R 1 1 r15 := rf_ne_lo f_93 c_94 (by decide) 1 rfl
              have f_97 : R 0 0 0 := ⟨by decide, by decide⟩
              exact hp _ _ ok (R_w f_97 (by decide))
            · have f_98 : R 0 0 0 := ⟨by decide, by decide⟩
              have f_99 : R 0 0 r15 := rf_eq f_98 c_94
              refine s_X6_says 5 (by decide) ok.1 (fun r18 f_100 => ?_)
              refine ⟨fun c_101 => ?_, fun c_101 => ?_⟩
              · have f_102 : R 0 0 0 := ⟨by decide, by decide⟩
                have f_103 : R 1 1 r18 := rf_ne_lo f_100 c_101 (by decide) 1 rfl
                have f_104 : R 0 0 0 := ⟨by decide, by decide⟩
                exact hp _ _ ok (R_w f_104 (by decide))
              · have f_105 : R 0 0 0 := ⟨by decide, by decide⟩
                have f_106 : R 0 0 r18 := rf_eq f_105 c_101
                refine s_X6_says 6 (by decide) ok.1 (fun r21 f_107 => ?_)
                refine ⟨fun c_108 => ?_, fun c_108 => ?_⟩
                · have f_109 : R 0 0 0 := ⟨by decide, by decide⟩
                  have f_110 : R 1 1 r21 := rf_ne_lo f_107 c_108 (by decide) 1 rfl
                  have f_111 : R 0 0 0 := ⟨by decide, by decide⟩
                  exact hp _ _ ok (R_w f_111 (by decide))
                · have f_112 : R 0 0 0 := ⟨by decide, by decide⟩
                  have f_113 : R 0 0 r21 := rf_eq f_112 c_108
                  have f_114 : R 1 1 1 := ⟨by decide, by decide⟩
                  exact hp _ _ ok (R_w f_114 (by decide))
set_option maxRecDepth 100000 in
set_option maxHeartbeats 4000000 in
theorem s_X6_indexOf_v0_L {g : gT} {h0 : mh_T} {P : Int32 → mh_T → Prop} (hG0 : GI h0) (hp : ∀ r : Int32, R (-1) 5 r → P r h0) : ∀ n : Nat, (∀ (l1 nl1 : Nat) (l2 : Int32) (l3 : Int32), shp l1 = (22, nl1, []) → R 0 6 l2 → R 0 6 l3 → 1 * gap 6 l3 + 0 < n → ME g uX6_indexOf 2 [.ref 1, .ref l1, .int l2, .int l3] [] h0 (qI P)) := by
  intro n
  induction n with
  | zero =>
    exact (fun _ _ _ _ _ _ _ hm => absurd hm (Nat.not_lt_zero _))
  | succ n ih =>
    intro l1 nl1 l2 l3 sl1 fl2 fl3     hm
    have ok : Ok [] h0 h0 := Ok_rf hG0
    refine r_X6_indexOf_2 l1 nl1 l2 l3 sl1 ?_
    refine ⟨fun c_135 => ?_, fun c_135 => ?_⟩
    · have f_136 : R (-1) (-1) (-1) := ⟨by decide, by decide⟩
      exact hp _ (R_w f_136 (by decide))
    · have f_137 : R 0 5 l3 := rf_lt_l fl3 fl2 (nle c_135) 5 (by decide)
      have f_138 : R 1 6 l2 := rf_lt_r fl3 fl2 (nle c_135) 1 (by decide)
      refine ⟨fun c_139 => ?_, fun c_139 => ?_⟩
      · have f_140 : R 0 3298 (Int32.ofNat nl1) := R_ofN sl1
        have f_141 : R 0 5 (Int32.ofNat nl1) := rf_le_l f_140 f_137 c_139 5 (by decide)
        have f_142 : R (-1) (-1) (-1) := ⟨by decide, by decide⟩
        exact hp _ (R_w f_142 (by decide))
      · have f_143 : R 0 3298 (Int32.ofNat nl1) := R_ofN sl1
        have f_144 : R 1 3298 (Int32.ofNat nl1) := rf_lt_r f_137 f_143 (nle c_139) 1 (by decide)
        refine ⟨vinL f_137 (by decide) (nle c_139) sl1, ?_⟩
        refine ⟨fun c_145 => ?_, fun c_145 => ?_⟩
        · have f_146 : R (-2147483648) 2147483647 (lg_cmp (mL h0 l1 l3.toNatClampNeg) (mL h0 1 10)) := R_full _
          have f_147 : R 0 0 0 := ⟨by decide, by decide⟩
          have f_149 : R 1 1 1 := ⟨by decide, by decide⟩
          have f_148 : R 1 6 (l3 + 1) := R_add f_137 f_149 1 6 (by decide)
          have g_150 := gap_inc (N := 6) f_137 (by decide)
          exact ih l1 nl1 l2 (l3 + 1) sl1 (R_w f_138 (by decide)) (R_w f_148 (by decide)) (by omega)
        · have f_151 : R (-2147483648) 2147483647 (lg_cmp (mL h0 l1 l3.toNatClampNeg) (mL h0 1 10)) := R_full _
          have f_152 : R 0 0 0 := ⟨by decide, by decide⟩
          have f_153 : R 0 0 (lg_cmp (mL h0 l1 l3.toNatClampNeg) (mL h0 1 10)) := rf_eq f_152 c_145
          exact hp _ (R_w f_137 (by decide))
set_option maxRecDepth 100000 in
set_option maxHeartbeats 4000000 in
theorem s_X6_indexOf_v0 {g : gT} {h : mh_T} {P : Int32 → mh_T → Prop} (l1 nl1 : Nat) (l2 : Int32) (sl1 : shp l1 = (22, nl1, [])) (hG : GI h) (fl2 : R 0 6 l2) (hp : ∀ r : Int32, R (-1) 5 r → P r h) : MCi g yX6_indexOf uX6_indexOf [.ref 1, .ref l1, .int l2] h P := by
  have ok : Ok [] h h := Ok_rf hG
  have L0 := s_X6_indexOf_v0_L (g := g) hG hp 7
  refine e_X6_indexOf l1 nl1 l2 sl1 ?_
  have f_154 : R 0 0 0 := ⟨by decide, by decide⟩
  have f_155 : R 0 0 0 := ⟨by decide, by decide⟩
  have g_156 := gap_le (N := 6) f_155 (m := 6) (by decide)
  exact L0 l1 nl1 l2 0 sl1 (R_w fl2 (by decide)) (R_w f_154 (by decide)) (by omega)
set_option maxRecDepth 100000 in
set_option maxHeartbeats 4000000 in
theorem s_X6_indexOf_v1_L {g : gT} {h0 : mh_T} {P : Int32 → mh_T → Prop} (hG0 : GI h0) (hp : ∀ r : Int32, R (-1) 8 r → P r h0) : ∀ n : Nat, (∀ (l1 nl1 : Nat) (l2 : Int32) (l3 : Int32), shp l1 = (22, nl1, []) → R 0 9 l2 → R 0 9 l3 → 1 * gap 9 l3 + 0 < n → ME g uX6_indexOf 2 [.ref 1, .ref l1, .int l2, .int l3] [] h0 (qI P)) := by
  intro n
  induction n with
  | zero =>
    exact (fun _ _ _ _ _ _ _ hm => absurd hm (Nat.not_lt_zero _))
  | succ n ih =>
    intro l1 nl1 l2 l3 sl1 fl2 fl3     hm
    have ok : Ok [] h0 h0 := Ok_rf hG0
    refine r_X6_indexOf_2 l1 nl1 l2 l3 sl1 ?_
    refine ⟨fun c_192 => ?_, fun c_192 => ?_⟩
    · have f_193 : R (-1) (-1) (-1) := ⟨by decide, by decide⟩
      exact hp _ (R_w f_193 (by decide))
    · have f_194 : R 0 8 l3 := rf_lt_l fl3 fl2 (nle c_192) 8 (by decide)
      have f_195 : R 1 9 l2 := rf_lt_r fl3 fl2 (nle c_192) 1 (by decide)
      refine ⟨fun c_196 => ?_, fun c_196 => ?_⟩
      · have f_197 : R 0 3298 (Int32.ofNat nl1) := R_ofN sl1
        have f_198 : R 0 8 (Int32.ofNat nl1) := rf_le_l f_197 f_194 c_196 8 (by decide)
        have f_199 : R (-1) (-1) (-1) := ⟨by decide, by decide⟩
        exact hp _ (R_w f_199 (by decide))
      · have f_200 : R 0 3298 (Int32.ofNat nl1) := R_ofN sl1
        have f_201 : R 1 3298 (Int32.ofNat nl1) := rf_lt_r f_194 f_200 (nle c_196) 1 (by decide)
        refine ⟨vinL f_194 (by decide) (nle c_196) sl1, ?_⟩
        refine ⟨fun c_202 => ?_, fun c_202 => ?_⟩
        · have f_203 : R (-2147483648) 2147483647 (lg_cmp (mL h0 l1 l3.toNatClampNeg) (mL h0 1 10)) := R_full _
          have f_204 : R 0 0 0 := ⟨by decide, by decide⟩
          have f_206 : R 1 1 1 := ⟨by decide, by decide⟩
          have f_205 : R 1 9 (l3 + 1) := R_add f_194 f_206 1 9 (by decide)
          have g_207 := gap_inc (N := 9) f_194 (by decide)
          exact ih l1 nl1 l2 (l3 + 1) sl1 (R_w f_195 (by decide)) (R_w f_205 (by decide)) (by omega)
        · have f_208 : R (-2147483648) 2147483647 (lg_cmp (mL h0 l1 l3.toNatClampNeg) (mL h0 1 10)) := R_full _
          have f_209 : R 0 0 0 := ⟨by decide, by decide⟩
          have f_210 : R 0 0 (lg_cmp (mL h0 l1 l3.toNatClampNeg) (mL h0 1 10)) := rf_eq f_209 c_202
          exact hp _ (R_w f_194 (by decide))
set_option maxRecDepth 100000 in
set_option maxHeartbeats 4000000 in
theorem s_X6_indexOf_v1 {g : gT} {h : mh_T} {P : Int32 → mh_T → Prop} (l1 nl1 : Nat) (l2 : Int32) (sl1 : shp l1 = (22, nl1, [])) (hG : GI h) (fl2 : R 0 9 l2) (hp : ∀ r : Int32, R (-1) 8 r → P r h) : MCi g yX6_indexOf uX6_indexOf [.ref 1, .ref l1, .int l2] h P := by
  have ok : Ok [] h h := Ok_rf hG
  have L0 := s_X6_indexOf_v1_L (g := g) hG hp 10
  refine e_X6_indexOf l1 nl1 l2 sl1 ?_
  have f_211 : R 0 0 0 := ⟨by decide, by decide⟩
  have f_212 : R 0 0 0 := ⟨by decide, by decide⟩
  have g_213 := gap_le (N := 9) f_212 (m := 9) (by decide)
  exact L0 l1 nl1 l2 0 sl1 (R_w fl2 (by decide)) (R_w f_211 (by decide)) (by omega)
set_option maxRecDepth 100000 in
set_option maxHeartbeats 4000000 in
theorem s_X6_needNewName {g : gT} {h : mh_T} {P : Int32 → mh_T → Prop}  (hG : GI h)  (hp : ∀ (r : Int32) h', Ok [1] h h' → R 0 1 r → P r h') : MCi g yX6_needNewName uX6_needNewName [.ref 1] h P := by
  have ok : Ok [1] h h := Ok_rf hG
  refine e_X6_needNewName   ?_
  refine s_X6_isName ok.1 (fun r2 h1 ko_45 f_47 => ?_)
  have ok_46 := Ok_tr ok ko_45 (by decide)
  refine ⟨fun c_48 => ?_, fun c_48 => ?_⟩
  · have f_49 : R 0 0 0 := ⟨by decide, by decide⟩
    have f_50 : R 1 1 r2 := rf_ne_lo f_47 c_48 (by decide) 1 rfl
    have f_52 : R 0 6 (mI h 2 1) := GI_rd ok.1 2 _ (by decide)
    have f_51 : R 0 6 (mI h1 2 1) := Ok_rd ko_45 (by decide) f_52
    refine s_X6_indexOf_v0 13 6 (mI h1 2 1) rfl ok_46.1 (R_w f_51 (by decide)) (fun r5 f_53 => ?_)
    refine ⟨fun c_54 => ?_, fun c_54 => ?_⟩
    · have f_55 : R 0 0 0 := ⟨by decide, by decide⟩
      have f_56 : R 0 5 r5 := rf_le_r f_55 f_53 c_54 0 (by decide)
      refine s_X6_refuse 3 ok_46.1 (fun r9 h8 ko_57 f_59 => ?_)
      have ok_58 := Ok_tr ok_46 ko_57 (by decide)
      refine ⟨fun c_60 => ?_, fun c_60 => ?_⟩
      · have f_61 : R 0 0 0 := ⟨by decide, by decide⟩
        have f_62 : R 0 0 0 := ⟨by decide, by decide⟩
        exact hp _ _ ok_58 (R_w f_62 (by decide))
      · have f_63 : R 0 0 0 := ⟨by decide, by decide⟩
        have f_64 : R 1 0 r9 := rf_ne_lo f_59 c_60 (by decide) 1 rfl
        exact (R_abs f_64 (by decide)).elim
    · have f_65 : R 0 0 0 := ⟨by decide, by decide⟩
      have f_66 : R (-1) (-1) r5 := rf_lt_l f_53 f_65 (nle c_54) (-1) (by decide)
      have f_68 : R 0 9 (mI h 2 2) := GI_rd ok.1 2 _ (by decide)
      have f_67 : R 0 9 (mI h1 2 2) := Ok_rd ko_45 (by decide) f_68
      refine s_X6_indexOf_v1 14 9 (mI h1 2 2) rfl ok_46.1 (R_w f_67 (by decide)) (fun r12 f_69 => ?_)
      refine ⟨fun c_70 => ?_, fun c_70 => ?_⟩
      · have f_71 : R 0 0 0 := ⟨by decide, by decide⟩
        have f_72 : R (-1) (-1) r12 := rf_lt_l f_69 f_71 c_70 (-1) (by decide)
        have f_73 : R 1 1 1 := ⟨by decide, by decide⟩
        exact hp _ _ ok_46 (R_w f_73 (by decide))
      · have f_74 : R 0 0 0 := ⟨by decide, by decide⟩
        have f_75 : R 0 8 r12 := rf_le_r f_74 f_69 (nlt c_70) 0 (by decide)
        refine s_X6_refuse 3 ok_46.1 (fun r17 h16 ko_76 f_78 => ?_)
        have ok_77 := Ok_tr ok_46 ko_76 (by decide)
        refine ⟨fun c_79 => ?_, fun c_79 => ?_⟩
        · have f_80 : R 0 0 0 := ⟨by decide, by decide⟩
          have f_81 : R 0 0 0 := ⟨by decide, by decide⟩
          exact hp _ _ ok_77 (R_w f_81 (by decide))
        · have f_82 : R 0 0 0 := ⟨by decide, by decide⟩
          have f_83 : R 1 0 r17 := rf_ne_lo f_78 c_79 (by decide) 1 rfl
          exact (R_abs f_83 (by decide)).elim
  · have f_84 : R 0 0 0 := ⟨by decide, by decide⟩
    have f_85 : R 0 0 r2 := rf_eq f_84 c_48
    refine s_X6_refuse 1 ok_46.1 (fun r20 h19 ko_86 f_88 => ?_)
    have ok_87 := Ok_tr ok_46 ko_86 (by decide)
    exact ⟨R_z (R_w f_88 (by decide)), hp _ _ ok_87 (R_w f_88 (by decide))⟩
theorem ofN_ti {n : Nat} (h : n ≤ 9) : (Int32.ofNat n).toInt = n := by
  have : ∀ n, n ≤ 9 → (Int32.ofNat n).toInt = n := by decide
  exact this n h
set_option maxRecDepth 100000 in
set_option maxHeartbeats 4000000 in
theorem s_X6_readNames_L {g : gT} {h0 : mh_T} {P : Int32 → mh_T → Prop} (l1 nl1 : Nat) (l2 : Int32) (sl1 : shp l1 = (22, nl1, [])) (hm1 : l1 ∈ [1, 2, 13, 14]) (hl : nl1 ≤ 9) (hc : l2 = 0 ∨ nl1 ≤ 6) (hp : ∀ r h', Ok [1, 2, 13, 14] h0 h' → R 0 1 r → P r h') : ∀ (n : Nat) (l3 : Int32) (h : mh_T), Ok [1, 2, 13, 14] h0 h → R 0 10 l3 → gap 10 l3 < n → ME g uX6_readNames 2 [.ref 1, .ref l1, .int l2, .int l3, .retAddr 0] [] h (qI P) := by
  intro n
  induction n with
  | zero => intro l3 h _ _ hn; exact absurd hn (Nat.not_lt_zero _)
  | succ n ih =>
    intro l3 h ok f3 hn
    have f1 : R 1 1 1 := ⟨by decide, by decide⟩
    have el := ofN_ti hl
    have r01 : ∀ r : Int32, R 0 0 r → (r = 0 ∨ r = 1) := fun r f => Or.inl (R_zero f)
    refine r_X6_readNames_2 l1 nl1 l2 l3 sl1 ⟨fun c => ?_, fun c => ?_⟩
    · refine s_X6_refuse 5 ok.1 (fun r h2 k2 fr => ⟨r01 r fr, hp _ _ (Ok_tr ok k2 (by decide)) (R_w fr (by decide))⟩)
    · have c := le_ti (nlt c)
      have g3 : R 0 9 l3 := ⟨f3.1, by omega⟩
      have gi := gap_inc (N := 10) g3 (by decide)
      refine s_X6_next ok.1 (fun h4 k4 => ?_)
      have ok4 := Ok_tr ok k4 (by decide)
      refine s_X6_needNewName ok4.1 (fun r6 h5 k5 f6 => ?_)
      have ok5 := Ok_tr ok4 k5 (by decide)
      refine ⟨fun _ => ?_, fun _ => hp _ _ ok5 ⟨by decide, by decide⟩⟩
      have fin : ∀ (x : Int32) (j : Nat) (hi : Int), (x = mI h5 2 j) → (rgT 2 j = (0, hi)) → (nl1 ≤ hi) → x < Int32.ofNat nl1 → MCv g yX6_next uX6_next [.ref 1] (wI (wL h5 l1 x.toNatClampNeg (mL h5 1 10)) 2 j ((mI (wL h5 l1 x.toNatClampNeg (mL h5 1 10)) 2 j) + 1)) (fun h13 => ((mI h13 1 8) = 44 → ME g uX6_readNames 2 [.ref 1, .ref l1, .int l2, .int (l3 + 1), .retAddr 0] [] h13 (qI P)) ∧ (¬ (mI h13 1 8) = 44 → P 1 h13)) := by
        intro x j hi ex er hh hx
        have fx : R 0 hi (mI h5 2 j) := GI_rd ok5.1 2 j er
        have hx := lt_ti hx
        rw [ex] at hx
        have fx1 := fx.1
        have e1 : (mI h5 2 j + 1).toInt = (mI h5 2 j).toInt + 1 := ti_inc (x := mI h5 2 j) (a := 0) (b := 9) ⟨fx.1, by omega⟩ (by decide)
        have o1 := Ok_wL ok5 (k := l1) (j := x.toNatClampNeg) (v := mL h5 1 10) (Or.inl hm1)
        have o2 := Ok_w o1 (k := 2) (j := j) (v := mI h5 2 j + 1) er ⟨by omega, by omega⟩ (by decide) (nt_k (by decide))
        refine s_X6_next o2.1 (fun h13 k13 => ?_)
        have o3 := Ok_tr o2 k13 (by decide)
        exact ⟨fun _ => ih (l3 + 1) h13 o3 (R_add g3 f1 0 10 (by decide)) (by omega), fun _ => hp _ _ o3 ⟨by decide, by decide⟩⟩
      have vi : ∀ (x : Int32) (j : Nat) (hi : Int), (x = mI h5 2 j) → (rgT 2 j = (0, hi)) → x < Int32.ofNat nl1 → vp_in x nl1 := by
        intro x j hi ex er hx
        have fx : R 0 hi (mI h5 2 j) := GI_rd ok5.1 2 j er
        have hx := lt_ti hx
        rw [← ex] at fx
        exact vp_in_iff.mpr ⟨fx.1, by omega⟩
      refine ⟨fun z2 => fun x ex => ⟨fun hx => ⟨vi x 2 9 ex (by decide) hx, fun _ => fin x 2 9 ex (by decide) (by omega) hx, fun z => absurd z2 z⟩, fun _ => ?_⟩, fun z2 => fun x ex => ⟨fun hx => ⟨vi x 1 6 ex (by decide) hx, fun z => absurd z z2, fun _ => fin x 1 6 ex (by decide) (by rcases hc with z | z; exact absurd z z2; omega) hx⟩, fun _ => ?_⟩⟩
      · refine s_X6_refuse 5 ok5.1 (fun r h2 k2 fr => ⟨r01 r fr, hp _ _ (Ok_tr ok5 k2 (by decide)) (R_w fr (by decide))⟩)
      · refine s_X6_refuse 5 ok5.1 (fun r h2 k2 fr => ⟨r01 r fr, hp _ _ (Ok_tr ok5 k2 (by decide)) (R_w fr (by decide))⟩)
theorem s_X6_readNames_v0 {g : gT} {h : mh_T} {P : Int32 → mh_T → Prop} (l1 nl1 : Nat) (l2 : Int32) (sl1 : shp l1 = (22, nl1, [])) (hx : l1 = 13 ∧ nl1 = 6) (hG : GI h) (fl2 : R 1 1 l2) (hp : ∀ (r : Int32) h', Ok [1, 2, 13, 14] h h' → R 0 1 r → P r h') : MCi g yX6_readNames uX6_readNames [.ref 1, .ref l1, .int l2] h P := by
  refine e_X6_readNames l1 nl1 l2 sl1 ?_
  exact s_X6_readNames_L l1 nl1 l2 sl1 (by rw [hx.1]; decide) (by rw [hx.2]; decide) (Or.inr (by rw [hx.2]; decide)) hp 11 0 h (Ok_rf hG) ⟨by decide, by decide⟩ (by decide)
theorem s_X6_readNames_v1 {g : gT} {h : mh_T} {P : Int32 → mh_T → Prop} (l1 nl1 : Nat) (l2 : Int32) (sl1 : shp l1 = (22, nl1, [])) (hx : l1 = 14 ∧ nl1 = 9) (hG : GI h) (fl2 : R 0 0 l2) (hp : ∀ (r : Int32) h', Ok [1, 2, 13, 14] h h' → R 0 1 r → P r h') : MCi g yX6_readNames uX6_readNames [.ref 1, .ref l1, .int l2] h P := by
  refine e_X6_readNames l1 nl1 l2 sl1 ?_
  exact s_X6_readNames_L l1 nl1 l2 sl1 (by rw [hx.1]; decide) (by rw [hx.2]; decide) (Or.inl (R_zero fl2)) hp 11 0 h (Ok_rf hG) ⟨by decide, by decide⟩ (by decide)
