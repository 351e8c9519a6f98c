set_option maxRecDepth 100000 in
set_option maxHeartbeats 4000000 in
theorem s_X11_size {g : gT} {h : mh_T} {P : Int32 → mh_T → Prop} (l1 : Int32) (hG : GI h)  (hp : ∀ (r : Int32) h', Ok [11] h h' → R (-1) 900 r → P r h') : MCi g yX11_size uX11_size [.ref 11, .int l1] h P := by
  have ok : Ok [11] h h := Ok_rf hG
  refine e_X11_size l1  ?_
  refine ⟨fun c_76 => ?_, fun c_76 => ?_⟩
  · have f_77 : R 10 10 10 := ⟨by decide, by decide⟩
    refine ⟨fun c_78 => ?_, fun c_78 => ?_⟩
    · have f_80 : R 0 1 (mI h 11 14) := GI_rd ok.1 11 _ (by decide)
      have f_79 : R 0 1 (mI (wI h 11 0 0) 11 14) := (rd_nj f_80 (by decide))
      have f_81 : R 0 0 0 := ⟨by decide, by decide⟩
      have f_82 : R 1 1 (mI (wI h 11 0 0) 11 14) := rf_ne_lo f_79 c_78 (by decide) 1 rfl
      refine ⟨fun c => ?_, fun c => ?_, fun c => ?_, fun c => ?_, fun c => ?_, fun c => ?_, fun c => ?_, fun c => ?_, fun c => ?_, fun c => ?_, fun c => ?_⟩
      · have f_83 : R 0 0 0 := ⟨by decide, by decide⟩
        have ok_84 := Ok_w ok (k := 11) (j := 0) (v := 0) (lo := (-2147483648)) (hi := 2147483647) (by decide) (R_w f_83 (by decide)) (by decide) (by decide)
        have f_85 : R (-1) (-1) (-1) := ⟨by decide, by decide⟩
        exact hp _ _ ok_84 (R_w f_85 (by decide))
      · have f_86 : R 0 0 0 := ⟨by decide, by decide⟩
        have ok_87 := Ok_w ok (k := 11) (j := 0) (v := 0) (lo := (-2147483648)) (hi := 2147483647) (by decide) (R_w f_86 (by decide)) (by decide) (by decide)
        have f_89 : R 0 6 (mI h 45 (Int32.toNatClampNeg 50)) := GI_rd ok.1 45 _ (by decide)
        have f_88 : R 0 6 (mI (wI h 11 0 0) 45 (Int32.toNatClampNeg 50)) := (rd_ne f_89 (by decide))
        exact hp _ _ ok_87 (R_w f_88 (by decide))
      · have f_90 : R 0 0 0 := ⟨by decide, by decide⟩
        have ok_91 := Ok_w ok (k := 11) (j := 0) (v := 0) (lo := (-2147483648)) (hi := 2147483647) (by decide) (R_w f_90 (by decide)) (by decide) (by decide)
        have f_93 : R 0 9 (mI h 45 (Int32.toNatClampNeg 51)) := GI_rd ok.1 45 _ (by decide)
        have f_92 : R 0 9 (mI (wI h 11 0 0) 45 (Int32.toNatClampNeg 51)) := (rd_ne f_93 (by decide))
        exact hp _ _ ok_91 (R_w f_92 (by decide))
      · have f_94 : R 0 0 0 := ⟨by decide, by decide⟩
        have ok_95 := Ok_w ok (k := 11) (j := 0) (v := 0) (lo := (-2147483648)) (hi := 2147483647) (by decide) (R_w f_94 (by decide)) (by decide) (by decide)
        have f_97 : R 0 8 (mI h 45 (Int32.toNatClampNeg 0)) := GI_rd ok.1 45 _ (by decide)
        have f_96 : R 0 8 (mI (wI h 11 0 0) 45 (Int32.toNatClampNeg 0)) := (rd_ne f_97 (by decide))
        exact hp _ _ ok_95 (R_w f_96 (by decide))
      · have f_98 : R 0 0 0 := ⟨by decide, by decide⟩
        have ok_99 := Ok_w ok (k := 11) (j := 0) (v := 0) (lo := (-2147483648)) (hi := 2147483647) (by decide) (R_w f_98 (by decide)) (by decide) (by decide)
        have f_101 : R 0 8 (mI h 45 (Int32.toNatClampNeg 52)) := GI_rd ok.1 45 _ (by decide)
        have f_100 : R 0 8 (mI (wI h 11 0 0) 45 (Int32.toNatClampNeg 52)) := (rd_ne f_101 (by decide))
        exact hp _ _ ok_99 (R_w f_100 (by decide))
      · have f_102 : R 0 0 0 := ⟨by decide, by decide⟩
        have ok_103 := Ok_w ok (k := 11) (j := 0) (v := 0) (lo := (-2147483648)) (hi := 2147483647) (by decide) (R_w f_102 (by decide)) (by decide) (by decide)
        have f_105 : R 0 18 (mI h 45 (Int32.toNatClampNeg 85)) := GI_rd ok.1 45 _ (by decide)
        have f_104 : R 0 18 (mI (wI h 11 0 0) 45 (Int32.toNatClampNeg 85)) := (rd_ne f_105 (by decide))
        exact hp _ _ ok_103 (R_w f_104 (by decide))
      · have f_106 : R 0 0 0 := ⟨by decide, by decide⟩
        have ok_107 := Ok_w ok (k := 11) (j := 0) (v := 0) (lo := (-2147483648)) (hi := 2147483647) (by decide) (R_w f_106 (by decide)) (by decide) (by decide)
        have f_109 : R 0 4 (mI h 45 (Int32.toNatClampNeg 158)) := GI_rd ok.1 45 _ (by decide)
        have f_108 : R 0 4 (mI (wI h 11 0 0) 45 (Int32.toNatClampNeg 158)) := (rd_ne f_109 (by decide))
        exact hp _ _ ok_107 (R_w f_108 (by decide))
      · have f_110 : R 0 0 0 := ⟨by decide, by decide⟩
        have ok_111 := Ok_w ok (k := 11) (j := 0) (v := 0) (lo := (-2147483648)) (hi := 2147483647) (by decide) (R_w f_110 (by decide)) (by decide) (by decide)
        have f_113 : R 0 60 (mI h 45 (Int32.toNatClampNeg 49)) := GI_rd ok.1 45 _ (by decide)
        have f_112 : R 0 60 (mI (wI h 11 0 0) 45 (Int32.toNatClampNeg 49)) := (rd_ne f_113 (by decide))
        exact hp _ _ ok_111 (R_w f_112 (by decide))
      · have f_114 : R 0 0 0 := ⟨by decide, by decide⟩
        have ok_115 := Ok_w ok (k := 11) (j := 0) (v := 0) (lo := (-2147483648)) (hi := 2147483647) (by decide) (R_w f_114 (by decide)) (by decide) (by decide)
        have f_117 : R 0 20 (mI h 11 24) := GI_rd ok.1 11 _ (by decide)
        have f_116 : R 0 20 (mI (wI h 11 0 0) 11 24) := (rd_nj f_117 (by decide))
        exact hp _ _ ok_115 (R_w f_116 (by decide))
      · have f_118 : R 0 0 0 := ⟨by decide, by decide⟩
        have ok_119 := Ok_w ok (k := 11) (j := 0) (v := 0) (lo := (-2147483648)) (hi := 2147483647) (by decide) (R_w f_118 (by decide)) (by decide) (by decide)
        have f_121 : R 0 20 (mI h 11 25) := GI_rd ok.1 11 _ (by decide)
        have f_120 : R 0 20 (mI (wI h 11 0 0) 11 25) := (rd_nj f_121 (by decide))
        exact hp _ _ ok_119 (R_w f_120 (by decide))
      · have f_122 : R 0 0 0 := ⟨by decide, by decide⟩
        have ok_123 := Ok_w ok (k := 11) (j := 0) (v := 0) (lo := (-2147483648)) (hi := 2147483647) (by decide) (R_w f_122 (by decide)) (by decide) (by decide)
        have f_125 : R 0 4 (mI h 11 26) := GI_rd ok.1 11 _ (by decide)
        have f_124 : R 0 4 (mI (wI h 11 0 0) 11 26) := (rd_nj f_125 (by decide))
        exact hp _ _ ok_123 (R_w f_124 (by decide))
    · have f_127 : R 0 1 (mI h 11 14) := GI_rd ok.1 11 _ (by decide)
      have f_126 : R 0 1 (mI (wI h 11 0 0) 11 14) := (rd_nj f_127 (by decide))
      have f_128 : R 0 0 0 := ⟨by decide, by decide⟩
      have f_129 : R 0 0 (mI (wI h 11 0 0) 11 14) := rf_eq f_128 c_78
      have f_130 : R 0 0 0 := ⟨by decide, by decide⟩
      have ok_131 := Ok_w ok (k := 11) (j := 0) (v := 0) (lo := (-2147483648)) (hi := 2147483647) (by decide) (R_w f_130 (by decide)) (by decide) (by decide)
      refine s_X11_within l1 0 9 ok_131.1 (fun r5 f_133 im_132 => ?_)
      refine ⟨fun c_134 => ?_, fun c_134 => ?_⟩
      · have f_135 : R 0 0 0 := ⟨by decide, by decide⟩
        have f_136 : R 0 0 r5 := rf_eq f_135 c_134
        have f_137 : R (-1) (-1) (-1) := ⟨by decide, by decide⟩
        exact hp _ _ ok_131 (R_w f_137 (by decide))
      · have f_138 : R 0 0 0 := ⟨by decide, by decide⟩
        have f_139 : R 0 0 0 := ⟨by decide, by decide⟩
        have f_140 : R 0 2147483647 l1 := rf_le_r f_139 (R_full l1) (im_132 c_134).1 0 (by decide)
        have f_141 : R 9 9 9 := ⟨by decide, by decide⟩
        have f_142 : R 0 9 l1 := rf_le_l f_140 f_141 (im_132 c_134).2 9 (by decide)
        have f_143 : R 1 1 r5 := rf_ne_lo f_133 c_134 (by decide) 1 rfl
        have f_144 : R 0 0 0 := ⟨by decide, by decide⟩
        exact hp _ _ ok_131 (R_w f_144 (by decide))
  · have f_145 : R 10 10 10 := ⟨by decide, by decide⟩
    have f_146 : R 10 10 l1 := rf_eq f_145 c_76
    have f_147 : R 0 0 0 := ⟨by decide, by decide⟩
    have ok_148 := Ok_w ok (k := 11) (j := 0) (v := 0) (lo := (-2147483648)) (hi := 2147483647) (by decide) (R_w f_147 (by decide)) (by decide) (by decide)
    have f_150 : R 0 900 (mI h 11 2) := GI_rd ok.1 11 _ (by decide)
    have f_149 : R 0 900 (mI (wI h 11 0 0) 11 2) := (rd_nj f_150 (by decide))
    exact hp _ _ ok_148 (R_w f_149 (by decide))
set_option maxRecDepth 100000 in
set_option maxHeartbeats 4000000 in
theorem s_X11_trouble {g : gT} {h : mh_T} {P : Int32 → mh_T → Prop}  (hG : GI h)  (hp : ∀ (r : Int32) h', Ok [11] h h' → P r h') : MCi g yX11_trouble uX11_trouble [.ref 11] h P := by
  have ok : Ok [11] h h := Ok_rf hG
  refine e_X11_trouble   ?_
  have f_5 : R 0 0 0 := ⟨by decide, by decide⟩
  have ok_6 := Ok_w ok (k := 11) (j := 0) (v := 0) (lo := (-2147483648)) (hi := 2147483647) (by decide) (R_w f_5 (by decide)) (by decide) (by decide)
  have f_8 : R (-2147483648) 2147483647 (mI h 11 11) := R_full _
  have f_7 : R (-2147483648) 2147483647 (mI (wI h 11 0 0) 11 11) := (rd_nj f_8 (by decide))
  exact hp _ _ ok_6 
