set_option maxRecDepth 100000 in
set_option maxHeartbeats 4000000 in
theorem s_X2_commonPart_L {g : gT} {h0 : mh_T} {P : Int64 → mh_T → Prop} (hG0 : GI h0) (hp : ∀ r : Int64, P r h0) : ∀ n : Nat, (∀ (l0 : Int64) (l2 : Int64) (l4 : Int64) (l6 : Int64) (l8 : Int32), R 0 128 l8 → 1 * gap 128 l8 + 0 < n → ME g uX2_commonPart 9 [.long l0, .retAddr 0, .long l2, .retAddr 0, .long l4, .retAddr 0, .long l6, .retAddr 0, .int l8, .retAddr 0, .retAddr 0] [] h0 (qL P)) := by
  intro n
  induction n with
  | zero =>
    exact (fun _ _ _ _ _ _ hm => absurd hm (Nat.not_lt_zero _))
  | succ n ih =>
    intro l0 l2 l4 l6 l8  fl8 hm
    have ok : OkC h0 h0 := OkC_rf hG0
    refine r_X2_commonPart_9 l0 l2 l4 l6 l8  ?_
    refine ⟨fun c_458 => ?_, fun c_458 => ?_⟩
    · have f_459 : R 128 128 128 := ⟨by decide, by decide⟩
      have f_460 : R 128 128 l8 := rf_le_r f_459 fl8 c_458 128 (by decide)
      exact hp _
    · have f_461 : R 128 128 128 := ⟨by decide, by decide⟩
      have f_462 : R 0 127 l8 := rf_lt_l fl8 f_461 (nle c_458) 127 (by decide)
      refine ⟨fun c_463 => ?_, fun c_463 => ?_⟩
      · have f_464 : R (-2147483648) 2147483647 (lg_cmp l6 0) := R_full _
        have f_465 : R 0 0 0 := ⟨by decide, by decide⟩
        have f_466 : R 0 0 (lg_cmp l6 0) := rf_eq f_465 c_463
        exact hp _
      · have f_467 : R (-2147483648) 2147483647 (lg_cmp l6 0) := R_full _
        have f_468 : R 0 0 0 := ⟨by decide, by decide⟩
        refine ⟨(lg_ne c_463), ?_⟩
        intro x4 ex4
        have f_470 : R 1 1 1 := ⟨by decide, by decide⟩
        have f_469 : R 1 128 (l8 + 1) := R_add f_462 f_470 1 128 (by decide)
        have g_471 := gap_inc (N := 128) f_462 (by decide)
        exact ih l0 l2 l6 x4 (l8 + 1)  (R_w f_469 (by decide)) (by omega)
set_option maxRecDepth 100000 in
set_option maxHeartbeats 4000000 in
theorem s_X2_commonPart {g : gT} {h : mh_T} {P : Int64 → mh_T → Prop} (l0 : Int64) (l2 : Int64) (hG : GI h)  (hp : ∀ r : Int64, P r h) : MCl g yX2_commonPart uX2_commonPart [.long l0, .long l2] h P := by
  have ok : OkC h h := OkC_rf hG
  have L0 := s_X2_commonPart_L (g := g) hG hp 129
  refine e_X2_commonPart l0 l2  ?_
  have f_472 : R 0 0 0 := ⟨by decide, by decide⟩
  have f_473 : R 0 0 0 := ⟨by decide, by decide⟩
  have g_474 := gap_le (N := 128) f_473 (m := 128) (by decide)
  exact L0 l0 l2 l0 l2 0  (R_w f_472 (by decide)) (by omega)
set_option maxRecDepth 100000 in
set_option maxHeartbeats 4000000 in
theorem s_X2_set {g : gT} {h : mh_T} {P : mh_T → Prop} (l1 : Int64) (l3 : Int64) (hG : GI h)  (hp : ∀ h', OkC h h' → P h') : MCv g yX2_set uX2_set [.ref 5, .long l1, .long l3] h P := by
  have ok : OkC h h := OkC_rf hG
  refine e_X2_set l1 l3  ?_
  refine s_X2_commonPart l1 l3 ok.1 (fun r2 => ?_)
  refine ⟨fun c_23 => ?_, fun c_23 => ?_⟩
  · have f_24 : R (-2147483648) 2147483647 (lg_cmp r2 0) := R_full _
    have f_25 : R 0 0 0 := ⟨by decide, by decide⟩
    refine ⟨(lg_ne c_23), ?_⟩
    refine ⟨fun c_26 => ?_, fun c_26 => ?_⟩
    · have f_27 : R 0 0 0 := ⟨by decide, by decide⟩
      refine ⟨(lg_ne c_26), ?_⟩
      have ok_28 := OkC_wL ok (k := 5) (j := 0) (v := (l1 / r2)) rfl
      have ok_29 := OkC_wL ok_28 (k := 5) (j := 1) (v := (l3 / r2)) rfl
      exact hp _ ok_29
    · have f_30 : R 0 0 0 := ⟨by decide, by decide⟩
      have f_31 : R 0 0 (lg_cmp r2 0) := rf_eq f_30 c_26
      have ok_32 := OkC_wL ok (k := 5) (j := 0) (v := (l1 / r2)) rfl
      have ok_33 := OkC_wL ok_32 (k := 5) (j := 1) (v := l3) rfl
      exact hp _ ok_33
  · have f_34 : R (-2147483648) 2147483647 (lg_cmp r2 0) := R_full _
    have f_35 : R 0 0 0 := ⟨by decide, by decide⟩
    have f_36 : R 0 0 (lg_cmp r2 0) := rf_eq f_35 c_23
    refine ⟨fun c_37 => ?_, fun c_37 => ?_⟩
    · have f_38 : R 0 0 0 := ⟨by decide, by decide⟩
      have f_39 : R 1 0 (lg_cmp r2 0) := rf_ne_lo f_36 c_37 (by decide) 1 rfl
      refine ⟨(lg_ne c_37), ?_⟩
      have ok_40 := OkC_wL ok (k := 5) (j := 0) (v := l1) rfl
      have ok_41 := OkC_wL ok_40 (k := 5) (j := 1) (v := (l3 / r2)) rfl
      exact hp _ ok_41
    · have f_42 : R 0 0 0 := ⟨by decide, by decide⟩
      have ok_43 := OkC_wL ok (k := 5) (j := 0) (v := l1) rfl
      have ok_44 := OkC_wL ok_43 (k := 5) (j := 1) (v := l3) rfl
      exact hp _ ok_44
set_option maxRecDepth 100000 in
set_option maxHeartbeats 4000000 in
theorem s_X8_hiddenAnswers {g : gT} {h : mh_T} {P : Int32 → mh_T → Prop}  (hG : GI h)  (hp : ∀ r : Int32, R 1 64 r → P r h) : MCi g yX8_hiddenAnswers uX8_hiddenAnswers [.ref 3] h P := by
  have ok : OkC h h := OkC_rf hG
  refine e_X8_hiddenAnswers   ?_
  have f_4 : R 0 6 (mI h 3 1) := GI_rd ok.1 3 _ (by decide)
  have f_3 : R 1 64 (1 <<< ((mI h 3 1) &&& 31)) := R_shl f_4 1 64 0 6 (by decide)
  exact hp _ (R_w f_3 (by decide))
set_option maxRecDepth 100000 in
set_option maxHeartbeats 4000000 in
theorem s_X8_cellOf {g : gT} {h : mh_T} {P : Int32 → mh_T → Prop} (l1 : Int32) (l2 : Int32) (hG : GI h) (fl1 : R 0 7 l1) (hp : ∀ r : Int32, R 0 31 r → P r h) : MCi g yX8_cellOf uX8_cellOf [.ref 3, .int l1, .int l2] h P := by
  have ok : OkC h h := OkC_rf hG
  refine e_X8_cellOf l1 l2  ?_
  refine ⟨vin fl1 (by decide), ?_⟩
  intro x2 ex2
  have f_23 : R 1 1 1 := ⟨by decide, by decide⟩
  have f_22 : R 0 1 ((l2 >>> ((mI h 24 l1.toNatClampNeg) &&& 31)) &&& 1) := R_and f_23 (by decide)
  have f_24 : R 0 1 x2 := rf_eq f_22 ex2
  refine ⟨vin fl1 (by decide), ?_⟩
  refine ⟨fun c_25 => ?_, fun c_25 => ?_⟩
  · have f_26 : R (-2) 5 (mI h 25 l1.toNatClampNeg) := GI_rd ok.1 25 _ rfl
    have f_27 : R 0 0 0 := ⟨by decide, by decide⟩
    have f_28 : R 0 5 (mI h 25 l1.toNatClampNeg) := rf_le_r f_27 f_26 c_25 0 (by decide)
    refine ⟨vin fl1 (by decide), ?_⟩
    have f_32 : R 4 4 4 := ⟨by decide, by decide⟩
    have f_31 : R 0 28 (4 * l1) := R_mul f_32 fl1 0 28 (by decide)
    have f_34 : R 2 2 2 := ⟨by decide, by decide⟩
    have f_33 : R 0 2 (2 * x2) := R_mul f_34 f_24 0 2 (by decide)
    have f_30 : R 0 30 ((4 * l1) + (2 * x2)) := R_add f_31 f_33 0 30 (by decide)
    have f_36 : R 1 1 1 := ⟨by decide, by decide⟩
    have f_35 : R 0 1 ((l2 >>> ((mI h 25 l1.toNatClampNeg) &&& 31)) &&& 1) := R_and f_36 (by decide)
    have f_29 : R 0 31 (((4 * l1) + (2 * x2)) + ((l2 >>> ((mI h 25 l1.toNatClampNeg) &&& 31)) &&& 1)) := R_add f_30 f_35 0 31 (by decide)
    exact hp _ (R_w f_29 (by decide))
  · have f_37 : R (-2) 5 (mI h 25 l1.toNatClampNeg) := GI_rd ok.1 25 _ rfl
    have f_38 : R 0 0 0 := ⟨by decide, by decide⟩
    have f_39 : R (-2) (-1) (mI h 25 l1.toNatClampNeg) := rf_lt_l f_37 f_38 (nle c_25) (-1) (by decide)
    have f_42 : R 4 4 4 := ⟨by decide, by decide⟩
    have f_41 : R 0 28 (4 * l1) := R_mul f_42 fl1 0 28 (by decide)
    have f_40 : R 0 29 ((4 * l1) + x2) := R_add f_41 f_24 0 29 (by decide)
    exact hp _ (R_w f_40 (by decide))
set_option maxRecDepth 100000 in
set_option maxHeartbeats 4000000 in
theorem s_X8_missed_L {g : gT} {h0 : mh_T} {P : Int32 → mh_T → Prop} (hG0 : GI h0) (hp : ∀ r : Int32, R 0 255 r → P r h0) : ∀ n : Nat, (∀ (l1 : Int32) (l2 : Int32) (l3 : Int32), R (-2147483648) 2147483647 l1 → R 0 255 l2 → R 0 8 l3 → 1 * gap 8 l3 + 0 < n → ME g uX8_missed 4 [.ref 3, .int l1, .int l2, .int l3] [] h0 (qI P)) := by
  intro n
  induction n with
  | zero =>
    exact (fun _ _ _ _ _ _ hm => absurd hm (Nat.not_lt_zero _))
  | succ n ih =>
    intro l1 l2 l3  fl1 fl2 fl3 hm
    have ok : OkC h0 h0 := OkC_rf hG0
    refine r_X8_missed_4 l1 l2 l3  ?_
    refine ⟨fun c_192 => ?_, fun c_192 => ?_⟩
    · have f_193 : R 0 8 (mI h0 3 2) := GI_rd ok.1 3 _ (by decide)
      exact hp _ (R_w fl2 (by decide))
    · have f_194 : R 0 8 (mI h0 3 2) := GI_rd ok.1 3 _ (by decide)
      have f_195 : R 0 7 l3 := rf_lt_l fl3 f_194 (nle c_192) 7 (by decide)
      have f_196 : R 1 8 (mI h0 3 2) := rf_lt_r fl3 f_194 (nle c_192) 1 (by decide)
      refine s_X8_cellOf l3 l1 ok.1 (R_w f_195 (by decide)) (fun r3 f_197 => ?_)
      refine ⟨vin f_197 (by decide), ?_⟩
      refine ⟨fun c_198 => ?_, fun c_198 => ?_⟩
      · have f_199 : R (-2147483648) 2147483647 (mI h0 26 r3.toNatClampNeg) := R_full _
        have f_200 : R 0 0 0 := ⟨by decide, by decide⟩
        have f_202 : R 1 1 1 := ⟨by decide, by decide⟩
        have f_201 : R 1 8 (l3 + 1) := R_add f_195 f_202 1 8 (by decide)
        have g_203 := gap_inc (N := 8) f_195 (by decide)
        exact ih l1 l2 (l3 + 1)  (R_w fl1 (by decide)) (R_w fl2 (by decide)) (R_w f_201 (by decide)) (by omega)
      · have f_204 : R (-2147483648) 2147483647 (mI h0 26 r3.toNatClampNeg) := R_full _
        have f_205 : R 0 0 0 := ⟨by decide, by decide⟩
        have f_206 : R 0 0 (mI h0 26 r3.toNatClampNeg) := rf_eq f_205 c_198
        intro x6 ex6
        have f_208 : R 1 128 (1 <<< (l3 &&& 31)) := R_shl f_195 1 128 0 7 (by decide)
        have f_207 : R 0 255 (l2 ||| (1 <<< (l3 &&& 31))) := R_or fl2 f_208 8 255 (by decide)
        have f_209 : R 0 255 x6 := rf_eq f_207 ex6
        have f_211 : R 1 1 1 := ⟨by decide, by decide⟩
        have f_210 : R 1 8 (l3 + 1) := R_add f_195 f_211 1 8 (by decide)
        have g_212 := gap_inc (N := 8) f_195 (by decide)
        exact ih l1 x6 (l3 + 1)  (R_w fl1 (by decide)) (R_w f_209 (by decide)) (R_w f_210 (by decide)) (by omega)
set_option maxRecDepth 100000 in
set_option maxHeartbeats 4000000 in
theorem s_X8_missed {g : gT} {h : mh_T} {P : Int32 → mh_T → Prop} (l1 : Int32) (hG : GI h)  (hp : ∀ r : Int32, R 0 255 r → P r h) : MCi g yX8_missed uX8_missed [.ref 3, .int l1] h P := by
  have ok : OkC h h := OkC_rf hG
  have L0 := s_X8_missed_L (g := g) hG hp 9
  refine e_X8_missed l1  ?_
  have f_213 : R 0 0 0 := ⟨by decide, by decide⟩
  have f_214 : R 0 0 0 := ⟨by decide, by decide⟩
  have f_215 : R 0 0 0 := ⟨by decide, by decide⟩
  have g_216 := gap_le (N := 8) f_215 (m := 8) (by decide)
  exact L0 l1 0 0  (R_w (R_full l1) (by decide)) (R_w f_213 (by decide)) (R_w f_214 (by decide)) (by omega)
set_option maxRecDepth 100000 in
set_option maxHeartbeats 4000000 in
theorem s_X0_entering_L {g : gT} {h0 : mh_T} {P : Int32 → mh_T → Prop} (hG0 : GI h0) (hp : ∀ r : Int32, R (-1) 63 r → P r h0) : ∀ n : Nat, (∀ (l1 : Int32) (l2 : Int32) (l3 : Int32), R 32 33 l1 → R (-1) 63 l2 → R 0 64 l3 → 1 * gap 64 l3 + 0 < n → ME g uX0_entering 4 [.ref 6, .int l1, .int l2, .int l3, .retAddr 0] [] h0 (qI P)) := by
  intro n
  induction n with
  | zero =>
    exact (fun _ _ _ _ _ _ hm => absurd hm (Nat.not_lt_zero _))
  | succ n ih =>
    intro l1 l2 l3  fl1 fl2 fl3 hm
    have ok : OkC h0 h0 := OkC_rf hG0
    refine r_X0_entering_4 l1 l2 l3  ?_
    refine ⟨fun c_2125 => ?_, fun c_2125 => ?_⟩
    · have f_2126 : R 0 64 (mI h0 6 6) := GI_rd ok.1 6 _ (by decide)
      exact hp _ (R_w fl2 (by decide))
    · have f_2127 : R 0 64 (mI h0 6 6) := GI_rd ok.1 6 _ (by decide)
      have f_2128 : R 0 63 l3 := rf_lt_l fl3 f_2127 (nle c_2125) 63 (by decide)
      have f_2129 : R 1 64 (mI h0 6 6) := rf_lt_r fl3 f_2127 (nle c_2125) 1 (by decide)
      refine ⟨fun c_2130 => ?_, fun c_2130 => ?_⟩
      · have f_2131 : R 32 32 32 := ⟨by decide, by decide⟩
        have f_2132 : R 32 32 l1 := rf_eq f_2131 c_2130
        refine ⟨vin f_2132 (by decide), ?_⟩
        refine ⟨vin f_2128 (by decide), ?_⟩
        refine ⟨fun c_2133 => ?_, fun c_2133 => ?_⟩
        · have f_2134 : R (-2147483648) 2147483647 (lg_cmp (mL h0 (62 + l1.toNatClampNeg) l3.toNatClampNeg) 0) := R_full _
          have f_2135 : R 0 0 0 := ⟨by decide, by decide⟩
          have f_2136 : R 0 2147483647 (lg_cmp (mL h0 (62 + l1.toNatClampNeg) l3.toNatClampNeg) 0) := rf_le_r f_2135 f_2134 c_2133 0 (by decide)
          have f_2138 : R 1 1 1 := ⟨by decide, by decide⟩
          have f_2137 : R 1 64 (l3 + 1) := R_add f_2128 f_2138 1 64 (by decide)
          have g_2139 := gap_inc (N := 64) f_2128 (by decide)
          exact ih l1 l2 (l3 + 1)  (R_w f_2132 (by decide)) (R_w fl2 (by decide)) (R_w f_2137 (by decide)) (by omega)
        · have f_2140 : R (-2147483648) 2147483647 (lg_cmp (mL h0 (62 + l1.toNatClampNeg) l3.toNatClampNeg) 0) := R_full _
          have f_2141 : R 0 0 0 := ⟨by decide, by decide⟩
          have f_2142 : R (-2147483648) (-1) (lg_cmp (mL h0 (62 + l1.toNatClampNeg) l3.toNatClampNeg) 0) := rf_lt_l f_2140 f_2141 (nle c_2133) (-1) (by decide)
          refine ⟨fun c_2143 => ?_, fun c_2143 => ?_⟩
          · have f_2144 : R 0 0 0 := ⟨by decide, by decide⟩
            have f_2145 : R (-1) (-1) l2 := rf_lt_l fl2 f_2144 c_2143 (-1) (by decide)
            have f_2147 : R 1 1 1 := ⟨by decide, by decide⟩
            have f_2146 : R 1 64 (l3 + 1) := R_add f_2128 f_2147 1 64 (by decide)
            have g_2148 := gap_inc (N := 64) f_2128 (by decide)
            exact ih l1 l3 (l3 + 1)  (R_w f_2132 (by decide)) (R_w f_2128 (by decide)) (R_w f_2146 (by decide)) (by omega)
          · have f_2149 : R 0 0 0 := ⟨by decide, by decide⟩
            have f_2150 : R 0 63 l2 := rf_le_r f_2149 fl2 (nlt c_2143) 0 (by decide)
            refine ⟨vin f_2128 (by decide), ?_⟩
            refine ⟨vin f_2150 (by decide), ?_⟩
            refine ⟨fun c_2151 => ?_, fun c_2151 => ?_⟩
            · have f_2152 : R (-2147483648) 2147483647 (mI h0 30 l3.toNatClampNeg) := R_full _
              have f_2153 : R (-2147483648) 2147483647 (mI h0 30 l2.toNatClampNeg) := R_full _
              have f_2155 : R 1 1 1 := ⟨by decide, by decide⟩
              have f_2154 : R 1 64 (l3 + 1) := R_add f_2128 f_2155 1 64 (by decide)
              have g_2156 := gap_inc (N := 64) f_2128 (by decide)
              exact ih l1 l2 (l3 + 1)  (R_w f_2132 (by decide)) (R_w f_2150 (by decide)) (R_w f_2154 (by decide)) (by omega)
            · have f_2157 : R (-2147483648) 2147483647 (mI h0 30 l3.toNatClampNeg) := R_full _
              have f_2158 : R (-2147483648) 2147483647 (mI h0 30 l2.toNatClampNeg) := R_full _
              have f_2159 : R (-2147483648) 2147483646 (mI h0 30 l3.toNatClampNeg) := rf_lt_l f_2157 f_2158 (nle c_2151) 2147483646 (by decide)
              have f_2160 : R (-2147483647) 2147483647 (mI h0 30 l2.toNatClampNeg) := rf_lt_r f_2157 f_2158 (nle c_2151) (-2147483647) (by decide)
              have f_2162 : R 1 1 1 := ⟨by decide, by decide⟩
              have f_2161 : R 1 64 (l3 + 1) := R_add f_2128 f_2162 1 64 (by decide)
              have g_2163 := gap_inc (N := 64) f_2128 (by decide)
              exact ih l1 l3 (l3 + 1)  (R_w f_2132 (by decide)) (R_w f_2128 (by decide)) (R_w f_2161 (by decide)) (by omega)
      · have f_2164 : R 32 32 32 := ⟨by decide, by decide⟩
        have f_2165 : R 33 33 l1 := rf_ne_lo fl1 c_2130 (by decide) 33 rfl
        refine ⟨vin f_2128 (by decide), ?_⟩
        refine ⟨fun c_2166 => ?_, fun c_2166 => ?_⟩
        · have f_2167 : R (-2147483648) 2147483647 (lg_cmp (mL h0 (62 + (Int32.toNatClampNeg 32)) l3.toNatClampNeg) 0) := R_full _
          have f_2168 : R 0 0 0 := ⟨by decide, by decide⟩
          have f_2170 : R 1 1 1 := ⟨by decide, by decide⟩
          have f_2169 : R 1 64 (l3 + 1) := R_add f_2128 f_2170 1 64 (by decide)
          have g_2171 := gap_inc (N := 64) f_2128 (by decide)
          exact ih l1 l2 (l3 + 1)  (R_w f_2165 (by decide)) (R_w fl2 (by decide)) (R_w f_2169 (by decide)) (by omega)
        · have f_2172 : R (-2147483648) 2147483647 (lg_cmp (mL h0 (62 + (Int32.toNatClampNeg 32)) l3.toNatClampNeg) 0) := R_full _
          have f_2173 : R 0 0 0 := ⟨by decide, by decide⟩
          have f_2174 : R 0 0 (lg_cmp (mL h0 (62 + (Int32.toNatClampNeg 32)) l3.toNatClampNeg) 0) := rf_eq f_2173 c_2166
          refine ⟨vin f_2165 (by decide), ?_⟩
          refine ⟨vin f_2128 (by decide), ?_⟩
          refine ⟨fun c_2175 => ?_, fun c_2175 => ?_⟩
          · have f_2176 : R (-2147483648) 2147483647 (lg_cmp (mL h0 (62 + l1.toNatClampNeg) l3.toNatClampNeg) 0) := R_full _
            have f_2177 : R 0 0 0 := ⟨by decide, by decide⟩
            have f_2178 : R 0 2147483647 (lg_cmp (mL h0 (62 + l1.toNatClampNeg) l3.toNatClampNeg) 0) := rf_le_r f_2177 f_2176 c_2175 0 (by decide)
            have f_2180 : R 1 1 1 := ⟨by decide, by decide⟩
            have f_2179 : R 1 64 (l3 + 1) := R_add f_2128 f_2180 1 64 (by decide)
            have g_2181 := gap_inc (N := 64) f_2128 (by decide)
            exact ih l1 l2 (l3 + 1)  (R_w f_2165 (by decide)) (R_w fl2 (by decide)) (R_w f_2179 (by decide)) (by omega)
          · have f_2182 : R (-2147483648) 2147483647 (lg_cmp (mL h0 (62 + l1.toNatClampNeg) l3.toNatClampNeg) 0) := R_full _
            have f_2183 : R 0 0 0 := ⟨by decide, by decide⟩
            have f_2184 : R (-2147483648) (-1) (lg_cmp (mL h0 (62 + l1.toNatClampNeg) l3.toNatClampNeg) 0) := rf_lt_l f_2182 f_2183 (nle c_2175) (-1) (by decide)
            refine ⟨fun c_2185 => ?_, fun c_2185 => ?_⟩
            · have f_2186 : R 0 0 0 := ⟨by decide, by decide⟩
              have f_2187 : R (-1) (-1) l2 := rf_lt_l fl2 f_2186 c_2185 (-1) (by decide)
              have f_2189 : R 1 1 1 := ⟨by decide, by decide⟩
              have f_2188 : R 1 64 (l3 + 1) := R_add f_2128 f_2189 1 64 (by decide)
              have g_2190 := gap_inc (N := 64) f_2128 (by decide)
              exact ih l1 l3 (l3 + 1)  (R_w f_2165 (by decide)) (R_w f_2128 (by decide)) (R_w f_2188 (by decide)) (by omega)
            · have f_2191 : R 0 0 0 := ⟨by decide, by decide⟩
              have f_2192 : R 0 63 l2 := rf_le_r f_2191 fl2 (nlt c_2185) 0 (by decide)
              refine ⟨vin f_2128 (by decide), ?_⟩
              refine ⟨vin f_2192 (by decide), ?_⟩
              refine ⟨fun c_2193 => ?_, fun c_2193 => ?_⟩
              · have f_2194 : R (-2147483648) 2147483647 (mI h0 30 l3.toNatClampNeg) := R_full _
                have f_2195 : R (-2147483648) 2147483647 (mI h0 30 l2.toNatClampNeg) := R_full _
                have f_2197 : R 1 1 1 := ⟨by decide, by decide⟩
                have f_2196 : R 1 64 (l3 + 1) := R_add f_2128 f_2197 1 64 (by decide)
                have g_2198 := gap_inc (N := 64) f_2128 (by decide)
                exact ih l1 l2 (l3 + 1)  (R_w f_2165 (by decide)) (R_w f_2192 (by decide)) (R_w f_2196 (by decide)) (by omega)
              · have f_2199 : R (-2147483648) 2147483647 (mI h0 30 l3.toNatClampNeg) := R_full _
                have f_2200 : R (-2147483648) 2147483647 (mI h0 30 l2.toNatClampNeg) := R_full _
                have f_2201 : R (-2147483648) 2147483646 (mI h0 30 l3.toNatClampNeg) := rf_lt_l f_2199 f_2200 (nle c_2193) 2147483646 (by decide)
                have f_2202 : R (-2147483647) 2147483647 (mI h0 30 l2.toNatClampNeg) := rf_lt_r f_2199 f_2200 (nle c_2193) (-2147483647) (by decide)
                have f_2204 : R 1 1 1 := ⟨by decide, by decide⟩
                have f_2203 : R 1 64 (l3 + 1) := R_add f_2128 f_2204 1 64 (by decide)
                have g_2205 := gap_inc (N := 64) f_2128 (by decide)
                exact ih l1 l3 (l3 + 1)  (R_w f_2165 (by decide)) (R_w f_2128 (by decide)) (R_w f_2203 (by decide)) (by omega)
set_option maxRecDepth 100000 in
set_option maxHeartbeats 4000000 in
theorem s_X0_entering {g : gT} {h : mh_T} {P : Int32 → mh_T → Prop} (l1 : Int32) (hG : GI h) (fl1 : R 32 33 l1) (hp : ∀ r : Int32, R (-1) 63 r → P r h) : MCi g yX0_entering uX0_entering [.ref 6, .int l1] h P := by
  have ok : OkC h h := OkC_rf hG
  have L0 := s_X0_entering_L (g := g) hG hp 65
  refine e_X0_entering l1  ?_
  have f_2206 : R (-1) (-1) (-1) := ⟨by decide, by decide⟩
  have f_2207 : R 0 0 0 := ⟨by decide, by decide⟩
  have f_2208 : R 0 0 0 := ⟨by decide, by decide⟩
  have g_2209 := gap_le (N := 64) f_2208 (m := 64) (by decide)
  exact L0 l1 (-1) 0  (R_w fl1 (by decide)) (R_w f_2206 (by decide)) (R_w f_2207 (by decide)) (by omega)
set_option maxRecDepth 100000 in
set_option maxHeartbeats 4000000 in
theorem s_X0_comesFirst {g : gT} {h : mh_T} {P : Int32 → mh_T → Prop} (l1 : Int32) (l2 : Int32) (l3 : Int32) (hG : GI h) (fl1 : R 0 31 l1) (fl2 : R 0 31 l2) (fl3 : R 0 63 l3) (hp : ∀ r : Int32, R 0 1 r → P r h) : MCi g yX0_comesFirst uX0_comesFirst [.ref 6, .int l1, .int l2, .int l3] h P := by
  have ok : OkC h h := OkC_rf hG
  refine e_X0_comesFirst l1 l2 l3  ?_
  refine ⟨vin fl1 (by decide), ?_⟩
  have f_25 : R 0 64 (mI h 6 6) := GI_rd ok.1 6 _ (by decide)
  refine ⟨vin f_25 (by decide), ?_⟩
  refine ⟨vin fl2 (by decide), ?_⟩
  refine ⟨vin fl3 (by decide), ?_⟩
  intro x5 ex5
  refine ⟨vin fl2 (by decide), ?_⟩
  refine ⟨vin f_25 (by decide), ?_⟩
  refine ⟨vin fl1 (by decide), ?_⟩
  refine ⟨vin fl3 (by decide), ?_⟩
  intro x10 ex10
  refine ⟨fun c_26 => ?_, fun c_26 => ?_⟩
  · have f_27 : R (-2147483648) 2147483647 (lg_cmp x5 x10) := R_full _
    have f_28 : R 0 0 0 := ⟨by decide, by decide⟩
    have f_29 : R (-2147483648) (-1) (lg_cmp x5 x10) := rf_lt_l f_27 f_28 c_26 (-1) (by decide)
    have f_30 : R 1 1 1 := ⟨by decide, by decide⟩
    exact hp _ (R_w f_30 (by decide))
  · have f_31 : R (-2147483648) 2147483647 (lg_cmp x5 x10) := R_full _
    have f_32 : R 0 0 0 := ⟨by decide, by decide⟩
    have f_33 : R 0 2147483647 (lg_cmp x5 x10) := rf_le_r f_32 f_31 (nlt c_26) 0 (by decide)
    refine ⟨fun c_34 => ?_, fun c_34 => ?_⟩
    · have f_35 : R 0 0 0 := ⟨by decide, by decide⟩
      have f_36 : R 1 2147483647 (lg_cmp x5 x10) := rf_ne_lo f_33 c_34 (by decide) 1 rfl
      have f_37 : R 0 0 0 := ⟨by decide, by decide⟩
      exact hp _ (R_w f_37 (by decide))
    · have f_38 : R 0 0 0 := ⟨by decide, by decide⟩
      have f_39 : R 0 0 (lg_cmp x5 x10) := rf_eq f_38 c_34
      refine ⟨vin fl1 (by decide), ?_⟩
      refine ⟨vin fl2 (by decide), ?_⟩
      refine ⟨fun c_40 => ?_, fun c_40 => ?_⟩
      · have f_41 : R (-2147483648) 2147483647 (mI h 29 l1.toNatClampNeg) := R_full _
        have f_42 : R (-2147483648) 2147483647 (mI h 29 l2.toNatClampNeg) := R_full _
        have f_43 : R 0 0 0 := ⟨by decide, by decide⟩
        exact hp _ (R_w f_43 (by decide))
      · have f_44 : R (-2147483648) 2147483647 (mI h 29 l1.toNatClampNeg) := R_full _
        have f_45 : R (-2147483648) 2147483647 (mI h 29 l2.toNatClampNeg) := R_full _
        have f_46 : R (-2147483648) 2147483646 (mI h 29 l1.toNatClampNeg) := rf_lt_l f_44 f_45 (nle c_40) 2147483646 (by decide)
        have f_47 : R (-2147483647) 2147483647 (mI h 29 l2.toNatClampNeg) := rf_lt_r f_44 f_45 (nle c_40) (-2147483647) (by decide)
        have f_48 : R 1 1 1 := ⟨by decide, by decide⟩
        exact hp _ (R_w f_48 (by decide))
set_option maxRecDepth 100000 in
set_option maxHeartbeats 4000000 in
theorem s_X0_leaving_L {g : gT} {h0 : mh_T} {P : Int32 → mh_T → Prop} (hG0 : GI h0) (hp : ∀ r : Int32, R (-1) 31 r → P r h0) : ∀ n : Nat, (∀ (l1 : Int32) (l2 : Int32) (l3 : Int32), R 0 63 l1 → R (-1) 31 l2 → R 0 32 l3 → 1 * gap 32 l3 + 0 < n → ME g uX0_leaving 4 [.ref 6, .int l1, .int l2, .int l3] [] h0 (qI P)) := by
  intro n
  induction n with
  | zero =>
    exact (fun _ _ _ _ _ _ hm => absurd hm (Nat.not_lt_zero _))
  | succ n ih =>
    intro l1 l2 l3  fl1 fl2 fl3 hm
    have ok : OkC h0 h0 := OkC_rf hG0
    refine r_X0_leaving_4 l1 l2 l3  ?_
    refine ⟨fun c_751 => ?_, fun c_751 => ?_⟩
    · have f_752 : R 0 32 (mI h0 6 5) := GI_rd ok.1 6 _ (by decide)
      exact hp _ (R_w fl2 (by decide))
    · have f_753 : R 0 32 (mI h0 6 5) := GI_rd ok.1 6 _ (by decide)
      have f_754 : R 0 31 l3 := rf_lt_l fl3 f_753 (nle c_751) 31 (by decide)
      have f_755 : R 1 32 (mI h0 6 5) := rf_lt_r fl3 f_753 (nle c_751) 1 (by decide)
      refine ⟨vin f_754 (by decide), ?_⟩
      refine ⟨vin fl1 (by decide), ?_⟩
      refine ⟨fun c_756 => ?_, fun c_756 => ?_⟩
      · have f_757 : R (-2147483648) 2147483647 (lg_cmp (mL h0 (62 + l3.toNatClampNeg) l1.toNatClampNeg) 0) := R_full _
        have f_758 : R 0 0 0 := ⟨by decide, by decide⟩
        have f_759 : R (-2147483648) 0 (lg_cmp (mL h0 (62 + l3.toNatClampNeg) l1.toNatClampNeg) 0) := rf_le_l f_757 f_758 c_756 0 (by decide)
        have f_761 : R 1 1 1 := ⟨by decide, by decide⟩
        have f_760 : R 1 32 (l3 + 1) := R_add f_754 f_761 1 32 (by decide)
        have g_762 := gap_inc (N := 32) f_754 (by decide)
        exact ih l1 l2 (l3 + 1)  (R_w fl1 (by decide)) (R_w fl2 (by decide)) (R_w f_760 (by decide)) (by omega)
      · have f_763 : R (-2147483648) 2147483647 (lg_cmp (mL h0 (62 + l3.toNatClampNeg) l1.toNatClampNeg) 0) := R_full _
        have f_764 : R 0 0 0 := ⟨by decide, by decide⟩
        have f_765 : R 1 2147483647 (lg_cmp (mL h0 (62 + l3.toNatClampNeg) l1.toNatClampNeg) 0) := rf_lt_r f_764 f_763 (nle c_756) 1 (by decide)
        refine ⟨fun c_766 => ?_, fun c_766 => ?_⟩
        · have f_767 : R 0 0 0 := ⟨by decide, by decide⟩
          have f_768 : R (-1) (-1) l2 := rf_lt_l fl2 f_767 c_766 (-1) (by decide)
          have f_770 : R 1 1 1 := ⟨by decide, by decide⟩
          have f_769 : R 1 32 (l3 + 1) := R_add f_754 f_770 1 32 (by decide)
          have g_771 := gap_inc (N := 32) f_754 (by decide)
          exact ih l1 l3 (l3 + 1)  (R_w fl1 (by decide)) (R_w f_754 (by decide)) (R_w f_769 (by decide)) (by omega)
        · have f_772 : R 0 0 0 := ⟨by decide, by decide⟩
          have f_773 : R 0 31 l2 := rf_le_r f_772 fl2 (nlt c_766) 0 (by decide)
          refine s_X0_comesFirst l3 l2 l1 ok.1 (R_w f_754 (by decide)) (R_w f_773 (by decide)) (R_w fl1 (by decide)) (fun r7 f_774 => ?_)
          refine ⟨fun c_775 => ?_, fun c_775 => ?_⟩
          · have f_776 : R 0 0 0 := ⟨by decide, by decide⟩
            have f_777 : R 0 0 r7 := rf_eq f_776 c_775
            have f_779 : R 1 1 1 := ⟨by decide, by decide⟩
            have f_778 : R 1 32 (l3 + 1) := R_add f_754 f_779 1 32 (by decide)
            have g_780 := gap_inc (N := 32) f_754 (by decide)
            exact ih l1 l2 (l3 + 1)  (R_w fl1 (by decide)) (R_w f_773 (by decide)) (R_w f_778 (by decide)) (by omega)
          · have f_781 : R 0 0 0 := ⟨by decide, by decide⟩
            have f_782 : R 1 1 r7 := rf_ne_lo f_774 c_775 (by decide) 1 rfl
            have f_784 : R 1 1 1 := ⟨by decide, by decide⟩
            have f_783 : R 1 32 (l3 + 1) := R_add f_754 f_784 1 32 (by decide)
            have g_785 := gap_inc (N := 32) f_754 (by decide)
            exact ih l1 l3 (l3 + 1)  (R_w fl1 (by decide)) (R_w f_754 (by decide)) (R_w f_783 (by decide)) (by omega)
set_option maxRecDepth 100000 in
set_option maxHeartbeats 4000000 in
theorem s_X0_leaving {g : gT} {h : mh_T} {P : Int32 → mh_T → Prop} (l1 : Int32) (hG : GI h) (fl1 : R 0 63 l1) (hp : ∀ r : Int32, R (-1) 31 r → P r h) : MCi g yX0_leaving uX0_leaving [.ref 6, .int l1] h P := by
  have ok : OkC h h := OkC_rf hG
  have L0 := s_X0_leaving_L (g := g) hG hp 33
  refine e_X0_leaving l1  ?_
  have f_786 : R (-1) (-1) (-1) := ⟨by decide, by decide⟩
  have f_787 : R 0 0 0 := ⟨by decide, by decide⟩
  have f_788 : R 0 0 0 := ⟨by decide, by decide⟩
  have g_789 := gap_le (N := 32) f_788 (m := 32) (by decide)
  exact L0 l1 (-1) 0  (R_w fl1 (by decide)) (R_w f_786 (by decide)) (R_w f_787 (by decide)) (by omega)
set_option maxRecDepth 100000 in
set_option maxHeartbeats 4000000 in
theorem s_X0_isMeant {g : gT} {h : mh_T} {P : Int32 → mh_T → Prop} (l0 : Int32) (l1 : Int32) (l2 : Int32) (hG : GI h)  (hp : ∀ r : Int32, R 0 1 r → P r h) : MCi g yX0_isMeant uX0_isMeant [.int l0, .int l1, .int l2] h P := by
  have ok : OkC h h := OkC_rf hG
  refine e_X0_isMeant l0 l1 l2  ?_
  refine ⟨fun c_12 => ?_, fun c_12 => ?_⟩
  · have f_13 : R 64 64 64 := ⟨by decide, by decide⟩
    have f_14 : R 64 2147483647 l0 := rf_le_r f_13 (R_full l0) c_12 64 (by decide)
    have f_15 : R 0 0 0 := ⟨by decide, by decide⟩
    exact hp _ (R_w f_15 (by decide))
  · have f_16 : R 64 64 64 := ⟨by decide, by decide⟩
    have f_17 : R (-2147483648) 63 l0 := rf_lt_l (R_full l0) f_16 (nle c_12) 63 (by decide)
    refine ⟨fun c_18 => ?_, fun c_18 => ?_⟩
    · have f_19 : R (-2147483648) 2147483647 (l0 &&& l1) := R_full _
      have f_20 : R 0 0 0 := ⟨by decide, by decide⟩
      exact hp _ (R_w f_20 (by decide))
    · have f_21 : R (-2147483648) 2147483647 (l0 &&& l1) := R_full _
      have f_22 : R 1 1 1 := ⟨by decide, by decide⟩
      exact hp _ (R_w f_22 (by decide))
set_option maxRecDepth 100000 in
set_option maxHeartbeats 4000000 in
theorem s_X1_clear_L {g : gT} {h0 : mh_T} {P : mh_T → Prop} (hG0 : GI h0) (hp : ∀ h', OkC h0 h' → P h') : ∀ n : Nat, (∀ (l1 : Int32) (h : mh_T), OkC h0 h → R 0 32 l1 → 1 * gap 32 l1 + 0 < n → ME g uX1_clear 37 [.ref 2, .int l1] [] h (qV P)) := by
  intro n
  induction n with
  | zero =>
    exact (fun _ _ _ _ hm => absurd hm (Nat.not_lt_zero _))
  | succ n ih =>
    intro l1 h  ok fl1 hm
    refine r_X1_clear_37 l1  ?_
    refine ⟨fun c_164 => ?_, fun c_164 => ?_⟩
    · have f_165 : R 32 32 32 := ⟨by decide, by decide⟩
      have f_166 : R 32 32 l1 := rf_le_r f_165 fl1 c_164 32 (by decide)
      exact hp _ ok
    · have f_167 : R 32 32 32 := ⟨by decide, by decide⟩
      have f_168 : R 0 31 l1 := rf_lt_l fl1 f_167 (nle c_164) 31 (by decide)
      refine ⟨vin f_168 (by decide), ?_⟩
      have f_170 : R 1 1 1 := ⟨by decide, by decide⟩
      have f_169 : R 1 32 (l1 + 1) := R_add f_168 f_170 1 32 (by decide)
      have f_171 : R 0 0 0 := ⟨by decide, by decide⟩
      have ok_172 := OkC_w ok (k := 17) (j := l1.toNatClampNeg) (v := 0) (lo := (-2147483648)) (hi := 2147483647) (rgc_17 _) (R_w f_171 (by decide)) rfl (fun z => by cases z.1)
      have g_173 := gap_inc (N := 32) f_168 (by decide)
      exact ih (l1 + 1) (wI h 17 l1.toNatClampNeg 0)  ok_172 (R_w f_169 (by decide)) (by omega)
set_option maxRecDepth 100000 in
set_option maxHeartbeats 4000000 in
theorem s_X1_clear {g : gT} {h : mh_T} {P : mh_T → Prop}  (hG : GI h)  (hp : ∀ h', OkC h h' → P h') : MCv g yX1_clear uX1_clear [.ref 2] h P := by
  have ok : OkC h h := OkC_rf hG
  have L0 := s_X1_clear_L (g := g) hG hp 33
  refine e_X1_clear   ?_
  have f_174 : R 0 0 0 := ⟨by decide, by decide⟩
  have f_175 : R 0 0 0 := ⟨by decide, by decide⟩
  have ok_176 := OkC_w ok (k := 2) (j := 0) (v := 0) (lo := 0) (hi := 60) (by decide) (R_w f_175 (by decide)) rfl (by decide)
  have f_177 : R 0 0 0 := ⟨by decide, by decide⟩
  have ok_178 := OkC_w ok_176 (k := 2) (j := 1) (v := 0) (lo := 0) (hi := 6) (by decide) (R_w f_177 (by decide)) rfl (by decide)
  have f_179 : R 0 0 0 := ⟨by decide, by decide⟩
  have ok_180 := OkC_w ok_178 (k := 2) (j := 2) (v := 0) (lo := 0) (hi := 9) (by decide) (R_w f_179 (by decide)) rfl (by decide)
  have f_181 : R 0 0 0 := ⟨by decide, by decide⟩
  have ok_182 := OkC_w ok_180 (k := 2) (j := 3) (v := 0) (lo := 0) (hi := 8) (by decide) (R_w f_181 (by decide)) rfl (by decide)
  have f_183 : R 0 0 0 := ⟨by decide, by decide⟩
  have ok_184 := OkC_w ok_182 (k := 2) (j := 4) (v := 0) (lo := 0) (hi := 8) (by decide) (R_w f_183 (by decide)) rfl (by decide)
  have f_185 : R 0 0 0 := ⟨by decide, by decide⟩
  have ok_186 := OkC_w ok_184 (k := 2) (j := 5) (v := 0) (lo := 0) (hi := 18) (by decide) (R_w f_185 (by decide)) rfl (by decide)
  have f_187 : R 0 0 0 := ⟨by decide, by decide⟩
  have ok_188 := OkC_w ok_186 (k := 2) (j := 6) (v := 0) (lo := 0) (hi := 4) (by decide) (R_w f_187 (by decide)) rfl (by decide)
  have f_189 : R 0 0 0 := ⟨by decide, by decide⟩
  have g_190 := gap_le (N := 32) f_189 (m := 32) (by decide)
  exact L0 0 (wI (wI (wI (wI (wI (wI (wI h 2 0 0) 2 1 0) 2 2 0) 2 3 0) 2 4 0) 2 5 0) 2 6 0)  ok_188 (R_w f_174 (by decide)) (by omega)
set_option maxRecDepth 100000 in
set_option maxHeartbeats 4000000 in
theorem s_X2_part {g : gT} {h : mh_T} {P : Int32 → mh_T → Prop} (l1 : Int32) (hG : GI h)  (hp : ∀ r : Int32, P r h) : MCi g yX2_part uX2_part [.ref 5, .int l1] h P := by
  have ok : OkC h h := OkC_rf hG
  refine e_X2_part l1  ?_
  refine ⟨fun c_7 => ?_, fun c_7 => ?_⟩
  · have f_8 : R 0 0 0 := ⟨by decide, by decide⟩
    have f_9 : R 0 0 l1 := rf_eq f_8 c_7
    have f_10 : R (-2147483648) 2147483647 (Int64.toInt32 (mL h 5 0)) := R_full _
    exact hp _ 
  · have f_11 : R 0 0 0 := ⟨by decide, by decide⟩
    have f_12 : R (-2147483648) 2147483647 (Int64.toInt32 (mL h 5 1)) := R_full _
    exact hp _ 
set_option maxRecDepth 100000 in
set_option maxHeartbeats 4000000 in
theorem s_X3_product_L {g : gT} {h0 : mh_T} {P : Int32 → mh_T → Prop} (hG0 : GI h0) (hp : ∀ r : Int32, P r h0) : ∀ n : Nat, (∀ (l1 : Int32) (l2 : Int32) (l3 : Int32) (l4 : Int32), R 0 17 l1 → R 0 17 l2 → R (-2147483648) 2147483647 l3 → R 0 4 l4 → 1 * gap 4 l4 + 0 < n → ME g uX3_product 5 [.ref 20, .int l1, .int l2, .int l3, .int l4] [] h0 (qI P)) := by
  intro n
  induction n with
  | zero =>
    exact (fun _ _ _ _ _ _ _ _ hm => absurd hm (Nat.not_lt_zero _))
  | succ n ih =>
    intro l1 l2 l3 l4  fl1 fl2 fl3 fl4 hm
    have ok : OkC h0 h0 := OkC_rf hG0
    refine r_X3_product_5 l1 l2 l3 l4  ?_
    refine ⟨fun c_99 => ?_, fun c_99 => ?_⟩
    · have f_100 : R 4 4 4 := ⟨by decide, by decide⟩
      have f_101 : R 4 4 l4 := rf_le_r f_100 fl4 c_99 4 (by decide)
      exact hp _ 
    · have f_102 : R 4 4 4 := ⟨by decide, by decide⟩
      have f_103 : R 0 3 l4 := rf_lt_l fl4 f_102 (nle c_99) 3 (by decide)
      have f_106 : R 4 4 4 := ⟨by decide, by decide⟩
      have f_105 : R 0 68 (4 * l1) := R_mul f_106 fl1 0 68 (by decide)
      have f_104 : R 0 71 ((4 * l1) + l4) := R_add f_105 f_103 0 71 (by decide)
      refine ⟨vin f_104 (by decide), ?_⟩
      have f_109 : R 4 4 4 := ⟨by decide, by decide⟩
      have f_108 : R 0 68 (4 * l2) := R_mul f_109 fl2 0 68 (by decide)
      have f_107 : R 0 71 ((4 * l2) + l4) := R_add f_108 f_103 0 71 (by decide)
      refine ⟨vin f_107 (by decide), ?_⟩
      intro x4 ex4
      have f_112 : R (-2147483648) 2147483647 (mI h0 20 ((4 * l1) + l4).toNatClampNeg) := R_full _
      have f_113 : R (-2147483648) 2147483647 (mI h0 20 ((4 * l2) + l4).toNatClampNeg) := R_full _
      have f_111 : R (-2147483648) 2147483647 ((mI h0 20 ((4 * l1) + l4).toNatClampNeg) * (mI h0 20 ((4 * l2) + l4).toNatClampNeg)) := R_full _
      have f_110 : R (-2147483648) 2147483647 (l3 + ((mI h0 20 ((4 * l1) + l4).toNatClampNeg) * (mI h0 20 ((4 * l2) + l4).toNatClampNeg))) := R_full _
      have f_114 : R (-2147483648) 2147483647 x4 := rf_eq f_110 ex4
      have f_116 : R 1 1 1 := ⟨by decide, by decide⟩
      have f_115 : R 1 4 (l4 + 1) := R_add f_103 f_116 1 4 (by decide)
      have g_117 := gap_inc (N := 4) f_103 (by decide)
      exact ih l1 l2 x4 (l4 + 1)  (R_w fl1 (by decide)) (R_w fl2 (by decide)) (R_w f_114 (by decide)) (R_w f_115 (by decide)) (by omega)
set_option maxRecDepth 100000 in
set_option maxHeartbeats 4000000 in
theorem s_X3_product {g : gT} {h : mh_T} {P : Int32 → mh_T → Prop} (l1 : Int32) (l2 : Int32) (hG : GI h) (fl1 : R 0 17 l1) (fl2 : R 0 17 l2) (hp : ∀ r : Int32, P r h) : MCi g yX3_product uX3_product [.ref 20, .int l1, .int l2] h P := by
  have ok : OkC h h := OkC_rf hG
  have L0 := s_X3_product_L (g := g) hG hp 5
  refine e_X3_product l1 l2  ?_
  have f_118 : R 0 0 0 := ⟨by decide, by decide⟩
  have f_119 : R 0 0 0 := ⟨by decide, by decide⟩
  have f_120 : R 0 0 0 := ⟨by decide, by decide⟩
  have g_121 := gap_le (N := 4) f_120 (m := 4) (by decide)
  exact L0 l1 l2 0 0  (R_w fl1 (by decide)) (R_w fl2 (by decide)) (R_w f_118 (by decide)) (R_w f_119 (by decide)) (by omega)
set_option maxRecDepth 100000 in
set_option maxHeartbeats 4000000 in
theorem s_X3_findCornersOf_L {g : gT} {h0 : mh_T} {P : mh_T → Prop} (hG0 : GI h0) (hp : ∀ h', OkC h0 h' → P h') : ∀ n : Nat, (∀ (l1 : Int32) (l2 : Int32) (l3 : Int32) (l4 : Int32) (h : mh_T), OkC h0 h → R 0 17 l1 → R 0 17 l2 → R (-2147483648) 2147483647 l3 → R 1 18 l4 → 18 * gap 18 l4 + 17 < n → ME g uX3_findCornersOf 19 [.ref 8, .int l1, .int l2, .int l3, .int l4, .retAddr 0, .retAddr 0] [] h (qV P)) ∧ (∀ (l1 : Int32) (l2 : Int32) (l3 : Int32) (l4 : Int32) (l5 : Int32) (l6 : Int32) (h : mh_T), OkC h0 h → R 0 17 l1 → R 0 17 l2 → R (-2147483648) 2147483647 l3 → R 1 17 l4 → R (-2147483648) 2147483647 l5 → R 2 18 l6 → 1 * gap 18 l6 + 18 * gap 18 l4 + 0 < n → ME g uX3_findCornersOf 58 [.ref 8, .int l1, .int l2, .int l3, .int l4, .int l5, .int l6] [] h (qV P)) := by
  intro n
  induction n with
  | zero =>
    exact ⟨(fun _ _ _ _ _ _ _ _ _ _ hm => absurd hm (Nat.not_lt_zero _)), (fun _ _ _ _ _ _ _ _ _ _ _ _ _ _ hm => absurd hm (Nat.not_lt_zero _))⟩
  | succ n ih =>
    refine ⟨?_, ?_⟩
    · intro l1 l2 l3 l4 h  ok fl1 fl2 fl3 fl4 hm
      refine r_X3_findCornersOf_19 l1 l2 l3 l4  ?_
      refine ⟨fun c_99 => ?_, fun c_99 => ?_⟩
      · have f_100 : R 0 18 (mI h 8 0) := GI_rd ok.1 8 _ (by decide)
        exact hp _ ok
      · have f_101 : R 0 18 (mI h 8 0) := GI_rd ok.1 8 _ (by decide)
        have f_102 : R 1 17 l4 := rf_lt_l fl4 f_101 (nle c_99) 17 (by decide)
        have f_103 : R 2 18 (mI h 8 0) := rf_lt_r fl4 f_101 (nle c_99) 2 (by decide)
        refine ⟨fun c_104 => ?_, fun c_104 => ?_⟩
        · have f_106 : R 1 1 1 := ⟨by decide, by decide⟩
          have f_105 : R 0 1 ((l3 >>> (l4 &&& 31)) &&& 1) := R_and f_106 (by decide)
          have f_107 : R 0 0 0 := ⟨by decide, by decide⟩
          have f_108 : R 0 0 ((l3 >>> (l4 &&& 31)) &&& 1) := rf_eq f_107 c_104
          intro x3 ex3
          have f_110 : R 1 1 1 := ⟨by decide, by decide⟩
          have f_109 : R 2 18 (l4 + 1) := R_add f_102 f_110 2 18 (by decide)
          have f_111 : R 2 18 x3 := rf_eq f_109 ex3
          have f_112 : R 0 0 0 := ⟨by decide, by decide⟩
          have g_113 := gap_le (N := 18) f_111 (m := 16) (by decide)
          exact (ih.2) l1 l2 l3 l4 0 x3 h  ok (R_w fl1 (by decide)) (R_w fl2 (by decide)) (R_w fl3 (by decide)) (R_w f_102 (by decide)) (R_w f_112 (by decide)) (R_w f_111 (by decide)) (by omega)
        · have f_115 : R 1 1 1 := ⟨by decide, by decide⟩
          have f_114 : R 0 1 ((l3 >>> (l4 &&& 31)) &&& 1) := R_and f_115 (by decide)
          have f_116 : R 0 0 0 := ⟨by decide, by decide⟩
          have f_117 : R 1 1 ((l3 >>> (l4 &&& 31)) &&& 1) := rf_ne_lo f_114 c_104 (by decide) 1 rfl
          refine ⟨vin f_102 (by decide), ?_⟩
          intro x5 ex5
          have f_119 : R (-2147483648) 2147483647 (mI h 32 l4.toNatClampNeg) := R_full _
          have f_118 : R (-2147483648) 2147483647 (l3 &&& (mI h 32 l4.toNatClampNeg)) := R_full _
          have f_120 : R (-2147483648) 2147483647 x5 := rf_eq f_118 ex5
          intro x6 ex6
          have f_122 : R 1 1 1 := ⟨by decide, by decide⟩
          have f_121 : R 2 18 (l4 + 1) := R_add f_102 f_122 2 18 (by decide)
          have f_123 : R 2 18 x6 := rf_eq f_121 ex6
          have g_124 := gap_le (N := 18) f_123 (m := 16) (by decide)
          exact (ih.2) l1 l2 l3 l4 x5 x6 h  ok (R_w fl1 (by decide)) (R_w fl2 (by decide)) (R_w fl3 (by decide)) (R_w f_102 (by decide)) (R_w f_120 (by decide)) (R_w f_123 (by decide)) (by omega)
    · intro l1 l2 l3 l4 l5 l6 h  ok fl1 fl2 fl3 fl4 fl5 fl6 hm
      refine r_X3_findCornersOf_58 l1 l2 l3 l4 l5 l6  ?_
      refine ⟨fun c_125 => ?_, fun c_125 => ?_⟩
      · have f_126 : R 0 18 (mI h 8 0) := GI_rd ok.1 8 _ (by decide)
        have f_128 : R 1 1 1 := ⟨by decide, by decide⟩
        have f_127 : R 2 18 (l4 + 1) := R_add fl4 f_128 2 18 (by decide)
        have g_129 := gap_inc (N := 18) fl4 (by decide)
        exact (ih.1) l1 l2 l3 (l4 + 1) h  ok (R_w fl1 (by decide)) (R_w fl2 (by decide)) (R_w fl3 (by decide)) (R_w f_127 (by decide)) (by omega)
      · have f_130 : R 0 18 (mI h 8 0) := GI_rd ok.1 8 _ (by decide)
        have f_131 : R 2 17 l6 := rf_lt_l fl6 f_130 (nle c_125) 17 (by decide)
        have f_132 : R 3 18 (mI h 8 0) := rf_lt_r fl6 f_130 (nle c_125) 3 (by decide)
        refine ⟨fun c_133 => ?_, fun c_133 => ?_⟩
        · have f_135 : R 1 1 1 := ⟨by decide, by decide⟩
          have f_134 : R 0 1 ((l5 >>> (l6 &&& 31)) &&& 1) := R_and f_135 (by decide)
          have f_136 : R 0 0 0 := ⟨by decide, by decide⟩
          have f_137 : R 0 0 ((l5 >>> (l6 &&& 31)) &&& 1) := rf_eq f_136 c_133
          have f_139 : R 1 1 1 := ⟨by decide, by decide⟩
          have f_138 : R 3 18 (l6 + 1) := R_add f_131 f_139 3 18 (by decide)
          have g_140 := gap_inc (N := 18) f_131 (by decide)
          exact (ih.2) l1 l2 l3 l4 l5 (l6 + 1) h  ok (R_w fl1 (by decide)) (R_w fl2 (by decide)) (R_w fl3 (by decide)) (R_w fl4 (by decide)) (R_w fl5 (by decide)) (R_w f_138 (by decide)) (by omega)
        · have f_142 : R 1 1 1 := ⟨by decide, by decide⟩
          have f_141 : R 0 1 ((l5 >>> (l6 &&& 31)) &&& 1) := R_and f_142 (by decide)
          have f_143 : R 0 0 0 := ⟨by decide, by decide⟩
          have f_144 : R 1 1 ((l5 >>> (l6 &&& 31)) &&& 1) := rf_ne_lo f_141 c_133 (by decide) 1 rfl
          refine ⟨fun c_145 => ?_, fun c_145 => ?_⟩
          · have f_146 : R 0 400 (mI h 8 1) := GI_rd ok.1 8 _ (by decide)
            have f_147 : R 400 400 400 := ⟨by decide, by decide⟩
            have f_148 : R 400 400 (mI h 8 1) := rf_le_r f_147 f_146 c_145 400 (by decide)
            have f_150 : R 1 1 1 := ⟨by decide, by decide⟩
            have f_149 : R 3 18 (l6 + 1) := R_add f_131 f_150 3 18 (by decide)
            have g_151 := gap_inc (N := 18) f_131 (by decide)
            exact (ih.2) l1 l2 l3 l4 l5 (l6 + 1) h  ok (R_w fl1 (by decide)) (R_w fl2 (by decide)) (R_w fl3 (by decide)) (R_w fl4 (by decide)) (R_w fl5 (by decide)) (R_w f_149 (by decide)) (by omega)
          · have f_152 : R 0 400 (mI h 8 1) := GI_rd ok.1 8 _ (by decide)
            have f_153 : R 400 400 400 := ⟨by decide, by decide⟩
            have f_154 : R 0 399 (mI h 8 1) := rf_lt_l f_152 f_153 (nle c_145) 399 (by decide)
            refine ⟨vin f_154 (by decide), ?_⟩
            have f_156 : R 1 1 1 := ⟨by decide, by decide⟩
            have f_155 : R 3 18 (l6 + 1) := R_add f_131 f_156 3 18 (by decide)
            have f_160 : R 1 131072 (1 <<< (l1 &&& 31)) := R_shl fl1 1 131072 0 17 (by decide)
            have f_161 : R 1 131072 (1 <<< (l2 &&& 31)) := R_shl fl2 1 131072 0 17 (by decide)
            have f_159 : R 0 262143 ((1 <<< (l1 &&& 31)) ||| (1 <<< (l2 &&& 31))) := R_or f_160 f_161 18 262143 (by decide)
            have f_162 : R 2 131072 (1 <<< (l4 &&& 31)) := R_shl fl4 2 131072 1 17 (by decide)
            have f_158 : R 0 262143 (((1 <<< (l1 &&& 31)) ||| (1 <<< (l2 &&& 31))) ||| (1 <<< (l4 &&& 31))) := R_or f_159 f_162 18 262143 (by decide)
            have f_163 : R 4 131072 (1 <<< (l6 &&& 31)) := R_shl f_131 4 131072 2 17 (by decide)
            have f_157 : R 0 262143 ((((1 <<< (l1 &&& 31)) ||| (1 <<< (l2 &&& 31))) ||| (1 <<< (l4 &&& 31))) ||| (1 <<< (l6 &&& 31))) := R_or f_158 f_163 18 262143 (by decide)
            have ok_164 := OkC_w ok (k := 33) (j := (mI h 8 1).toNatClampNeg) (v := ((((1 <<< (l1 &&& 31)) ||| (1 <<< (l2 &&& 31))) ||| (1 <<< (l4 &&& 31))) ||| (1 <<< (l6 &&& 31)))) (lo := 0) (hi := 262143) rfl f_157 rfl (fun z => by cases z.1)
            have f_166 : R 0 399 (mI (wI h 33 (mI h 8 1).toNatClampNeg ((((1 <<< (l1 &&& 31)) ||| (1 <<< (l2 &&& 31))) ||| (1 <<< (l4 &&& 31))) ||| (1 <<< (l6 &&& 31)))) 8 1) := (rd_ne f_154 (by decide))
            have f_167 : R 1 1 1 := ⟨by decide, by decide⟩
            have f_165 : R 1 400 ((mI (wI h 33 (mI h 8 1).toNatClampNeg ((((1 <<< (l1 &&& 31)) ||| (1 <<< (l2 &&& 31))) ||| (1 <<< (l4 &&& 31))) ||| (1 <<< (l6 &&& 31)))) 8 1) + 1) := R_add f_166 f_167 1 400 (by decide)
            have ok_168 := OkC_w ok_164 (k := 8) (j := 1) (v := ((mI (wI h 33 (mI h 8 1).toNatClampNeg ((((1 <<< (l1 &&& 31)) ||| (1 <<< (l2 &&& 31))) ||| (1 <<< (l4 &&& 31))) ||| (1 <<< (l6 &&& 31)))) 8 1) + 1)) (lo := 0) (hi := 400) (by decide) (R_w f_165 (by decide)) rfl (by decide)
            have g_169 := gap_inc (N := 18) f_131 (by decide)
            exact (ih.2) l1 l2 l3 l4 l5 (l6 + 1) (wI (wI h 33 (mI h 8 1).toNatClampNeg ((((1 <<< (l1 &&& 31)) ||| (1 <<< (l2 &&& 31))) ||| (1 <<< (l4 &&& 31))) ||| (1 <<< (l6 &&& 31)))) 8 1 ((mI (wI h 33 (mI h 8 1).toNatClampNeg ((((1 <<< (l1 &&& 31)) ||| (1 <<< (l2 &&& 31))) ||| (1 <<< (l4 &&& 31))) ||| (1 <<< (l6 &&& 31)))) 8 1) + 1))  ok_168 (R_w fl1 (by decide)) (R_w fl2 (by decide)) (R_w fl3 (by decide)) (R_w fl4 (by decide)) (R_w fl5 (by decide)) (R_w f_155 (by decide)) (by omega)
set_option maxRecDepth 100000 in
set_option maxHeartbeats 4000000 in
theorem s_X3_findCornersOf {g : gT} {h : mh_T} {P : mh_T → Prop} (l1 : Int32) (l2 : Int32) (hG : GI h) (fl1 : R 0 17 l1) (fl2 : R 0 17 l2) (hp : ∀ h', OkC h h' → P h') : MCv g yX3_findCornersOf uX3_findCornersOf [.ref 8, .int l1, .int l2] h P := by
  have ok : OkC h h := OkC_rf hG
  have L0 := s_X3_findCornersOf_L (g := g) hG hp 324
  refine e_X3_findCornersOf l1 l2  ?_
  refine ⟨vin fl1 (by decide), ?_⟩
  refine ⟨vin fl2 (by decide), ?_⟩
  intro x3 ex3
  have f_171 : R (-2147483648) 2147483647 (mI h 32 l2.toNatClampNeg) := R_full _
  have f_172 : R (-2147483648) 2147483647 (mI h 32 l1.toNatClampNeg) := R_full _
  have f_170 : R (-2147483648) 2147483647 ((mI h 32 l1.toNatClampNeg) &&& (mI h 32 l2.toNatClampNeg)) := R_full _
  have f_173 : R (-2147483648) 2147483647 x3 := rf_eq f_170 ex3
  intro x4 ex4
  have f_175 : R 1 1 1 := ⟨by decide, by decide⟩
  have f_174 : R 1 18 (l2 + 1) := R_add fl2 f_175 1 18 (by decide)
  have f_176 : R 1 18 x4 := rf_eq f_174 ex4
  have g_177 := gap_le (N := 18) f_176 (m := 17) (by decide)
  exact (L0.1) l1 l2 x3 x4 h  ok (R_w fl1 (by decide)) (R_w fl2 (by decide)) (R_w f_173 (by decide)) (R_w f_176 (by decide)) (by omega)
set_option maxRecDepth 100000 in
set_option maxHeartbeats 4000000 in
theorem s_X3_findCorners_L {g : gT} {h0 : mh_T} {P : mh_T → Prop} (hG0 : GI h0) (hp : ∀ h', OkC h0 h' → P h') : ∀ n : Nat, (∀ (l1 : Int32) (h : mh_T), OkC h0 h → R 0 18 l1 → 19 * gap 18 l1 + 18 < n → ME g uX3_findCorners 7 [.ref 8, .int l1, .retAddr 0] [] h (qV P)) ∧ (∀ (l1 : Int32) (l2 : Int32) (h : mh_T), OkC h0 h → R 0 17 l1 → R 1 18 l2 → 1 * gap 18 l2 + 19 * gap 18 l1 + 0 < n → ME g uX3_findCorners 19 [.ref 8, .int l1, .int l2] [] h (qV P)) := by
  intro n
  induction n with
  | zero =>
    exact ⟨(fun _ _ _ _ hm => absurd hm (Nat.not_lt_zero _)), (fun _ _ _ _ _ _ hm => absurd hm (Nat.not_lt_zero _))⟩
  | succ n ih =>
    refine ⟨?_, ?_⟩
    · intro l1 h  ok fl1 hm
      refine r_X3_findCorners_7 l1  ?_
      refine ⟨fun c_879 => ?_, fun c_879 => ?_⟩
      · have f_880 : R 0 18 (mI h 8 0) := GI_rd ok.1 8 _ (by decide)
        exact hp _ ok
      · have f_881 : R 0 18 (mI h 8 0) := GI_rd ok.1 8 _ (by decide)
        have f_882 : R 0 17 l1 := rf_lt_l fl1 f_881 (nle c_879) 17 (by decide)
        have f_883 : R 1 18 (mI h 8 0) := rf_lt_r fl1 f_881 (nle c_879) 1 (by decide)
        intro x2 ex2
        have f_885 : R 1 1 1 := ⟨by decide, by decide⟩
        have f_884 : R 1 18 (l1 + 1) := R_add f_882 f_885 1 18 (by decide)
        have f_886 : R 1 18 x2 := rf_eq f_884 ex2
        have g_887 := gap_le (N := 18) f_886 (m := 17) (by decide)
        exact (ih.2) l1 x2 h  ok (R_w f_882 (by decide)) (R_w f_886 (by decide)) (by omega)
    · intro l1 l2 h  ok fl1 fl2 hm
      refine r_X3_findCorners_19 l1 l2  ?_
      refine ⟨fun c_888 => ?_, fun c_888 => ?_⟩
      · have f_889 : R 0 18 (mI h 8 0) := GI_rd ok.1 8 _ (by decide)
        have f_891 : R 1 1 1 := ⟨by decide, by decide⟩
        have f_890 : R 1 18 (l1 + 1) := R_add fl1 f_891 1 18 (by decide)
        have g_892 := gap_inc (N := 18) fl1 (by decide)
        exact (ih.1) (l1 + 1) h  ok (R_w f_890 (by decide)) (by omega)
      · have f_893 : R 0 18 (mI h 8 0) := GI_rd ok.1 8 _ (by decide)
        have f_894 : R 1 17 l2 := rf_lt_l fl2 f_893 (nle c_888) 17 (by decide)
        have f_895 : R 2 18 (mI h 8 0) := rf_lt_r fl2 f_893 (nle c_888) 2 (by decide)
        refine ⟨vin fl1 (by decide), ?_⟩
        refine ⟨fun c_896 => ?_, fun c_896 => ?_⟩
        · have f_898 : R 1 1 1 := ⟨by decide, by decide⟩
          have f_897 : R 0 1 (((mI h 32 l1.toNatClampNeg) >>> (l2 &&& 31)) &&& 1) := R_and f_898 (by decide)
          have f_899 : R 0 0 0 := ⟨by decide, by decide⟩
          have f_900 : R 0 0 (((mI h 32 l1.toNatClampNeg) >>> (l2 &&& 31)) &&& 1) := rf_eq f_899 c_896
          have f_902 : R 1 1 1 := ⟨by decide, by decide⟩
          have f_901 : R 2 18 (l2 + 1) := R_add f_894 f_902 2 18 (by decide)
          have g_903 := gap_inc (N := 18) f_894 (by decide)
          exact (ih.2) l1 (l2 + 1) h  ok (R_w fl1 (by decide)) (R_w f_901 (by decide)) (by omega)
        · have f_905 : R 1 1 1 := ⟨by decide, by decide⟩
          have f_904 : R 0 1 (((mI h 32 l1.toNatClampNeg) >>> (l2 &&& 31)) &&& 1) := R_and f_905 (by decide)
          have f_906 : R 0 0 0 := ⟨by decide, by decide⟩
          have f_907 : R 1 1 (((mI h 32 l1.toNatClampNeg) >>> (l2 &&& 31)) &&& 1) := rf_ne_lo f_904 c_896 (by decide) 1 rfl
          refine s_X3_findCornersOf l1 l2 ok.1 (R_w fl1 (by decide)) (R_w f_894 (by decide)) (fun h4 ko_908 => ?_)
          have ok_909 := OkC_tr ok ko_908
          have f_911 : R 1 1 1 := ⟨by decide, by decide⟩
          have f_910 : R 2 18 (l2 + 1) := R_add f_894 f_911 2 18 (by decide)
          have g_912 := gap_inc (N := 18) f_894 (by decide)
          exact (ih.2) l1 (l2 + 1) h4  ok_909 (R_w fl1 (by decide)) (R_w f_910 (by decide)) (by omega)
set_option maxRecDepth 100000 in
set_option maxHeartbeats 4000000 in
theorem s_X3_findCorners {g : gT} {h : mh_T} {P : mh_T → Prop}  (hG : GI h)  (hp : ∀ h', OkC h h' → P h') : MCv g yX3_findCorners uX3_findCorners [.ref 8] h P := by
  have ok : OkC h h := OkC_rf hG
  have L0 := s_X3_findCorners_L (g := g) hG hp 361
  refine e_X3_findCorners   ?_
  have f_913 : R 0 0 0 := ⟨by decide, by decide⟩
  have f_914 : R 0 0 0 := ⟨by decide, by decide⟩
  have ok_915 := OkC_w ok (k := 8) (j := 1) (v := 0) (lo := 0) (hi := 400) (by decide) (R_w f_914 (by decide)) rfl (by decide)
  have f_916 : R 0 0 0 := ⟨by decide, by decide⟩
  have g_917 := gap_le (N := 18) f_916 (m := 18) (by decide)
  exact (L0.1) 0 (wI h 8 1 0)  ok_915 (R_w f_913 (by decide)) (by omega)
set_option maxRecDepth 100000 in
set_option maxHeartbeats 4000000 in
theorem s_X3_open_L {g : gT} {h0 : mh_T} {P : mh_T → Prop} (hG0 : GI h0) (hp : ∀ h', OkC h0 h' → P h') : ∀ n : Nat, (∀ (l2 : Int32) (h : mh_T), OkC h0 h → R 0 18 l2 → 20 * gap 18 l2 + 19 < n → ME g uX3_open 15 [.ref 8, .ref 2, .int l2, .retAddr 0] [] h (qV P)) ∧ (∀ (l2 : Int32) (l3 : Int32) (h : mh_T), OkC h0 h → R 0 17 l2 → R 0 18 l3 → 1 * gap 18 l3 + 20 * gap 18 l2 + 0 < n → ME g uX3_open 32 [.ref 8, .ref 2, .int l2, .int l3] [] h (qV P)) := by
  intro n
  induction n with
  | zero =>
    exact ⟨(fun _ _ _ _ hm => absurd hm (Nat.not_lt_zero _)), (fun _ _ _ _ _ _ hm => absurd hm (Nat.not_lt_zero _))⟩
  | succ n ih =>
    refine ⟨?_, ?_⟩
    · intro l2 h  ok fl2 hm
      refine r_X3_open_15 l2  ?_
      refine ⟨fun c_848 => ?_, fun c_848 => ?_⟩
      · have f_849 : R 0 18 (mI h 8 0) := GI_rd ok.1 8 _ (by decide)
        refine s_X3_findCorners ok.1 (fun h2 ko_850 => ?_)
        have ok_851 := OkC_tr ok ko_850
        exact hp _ ok_851
      · have f_852 : R 0 18 (mI h 8 0) := GI_rd ok.1 8 _ (by decide)
        have f_853 : R 0 17 l2 := rf_lt_l fl2 f_852 (nle c_848) 17 (by decide)
        have f_854 : R 1 18 (mI h 8 0) := rf_lt_r fl2 f_852 (nle c_848) 1 (by decide)
        refine ⟨vin f_853 (by decide), ?_⟩
        have f_855 : R 0 0 0 := ⟨by decide, by decide⟩
        have f_856 : R 0 0 0 := ⟨by decide, by decide⟩
        have ok_857 := OkC_w ok (k := 32) (j := l2.toNatClampNeg) (v := 0) (lo := (-2147483648)) (hi := 2147483647) (rgc_32 _) (R_w f_856 (by decide)) rfl (fun z => by cases z.1)
        have f_858 : R 0 0 0 := ⟨by decide, by decide⟩
        have g_859 := gap_le (N := 18) f_858 (m := 18) (by decide)
        exact (ih.2) l2 0 (wI h 32 l2.toNatClampNeg 0)  ok_857 (R_w f_853 (by decide)) (R_w f_855 (by decide)) (by omega)
    · intro l2 l3 h  ok fl2 fl3 hm
      refine r_X3_open_32 l2 l3  ?_
      refine ⟨fun c_860 => ?_, fun c_860 => ?_⟩
      · have f_861 : R 0 18 (mI h 8 0) := GI_rd ok.1 8 _ (by decide)
        have f_863 : R 1 1 1 := ⟨by decide, by decide⟩
        have f_862 : R 1 18 (l2 + 1) := R_add fl2 f_863 1 18 (by decide)
        have g_864 := gap_inc (N := 18) fl2 (by decide)
        exact (ih.1) (l2 + 1) h  ok (R_w f_862 (by decide)) (by omega)
      · have f_865 : R 0 18 (mI h 8 0) := GI_rd ok.1 8 _ (by decide)
        have f_866 : R 0 17 l3 := rf_lt_l fl3 f_865 (nle c_860) 17 (by decide)
        have f_867 : R 1 18 (mI h 8 0) := rf_lt_r fl3 f_865 (nle c_860) 1 (by decide)
        refine ⟨fun c_868 => ?_, fun c_868 => ?_⟩
        · have f_870 : R 1 1 1 := ⟨by decide, by decide⟩
          have f_869 : R 1 18 (l3 + 1) := R_add f_866 f_870 1 18 (by decide)
          have g_871 := gap_inc (N := 18) f_866 (by decide)
          exact (ih.2) l2 (l3 + 1) h  ok (R_w fl2 (by decide)) (R_w f_869 (by decide)) (by omega)
        · refine s_X3_product l2 l3 ok.1 (R_w fl2 (by decide)) (R_w f_866 (by decide)) (fun r4 => ?_)
          refine ⟨fun c_872 => ?_, fun c_872 => ?_⟩
          · have f_873 : R (-2147483648) 2147483647 r4 := R_full _
            have f_874 : R 0 0 0 := ⟨by decide, by decide⟩
            have f_876 : R 1 1 1 := ⟨by decide, by decide⟩
            have f_875 : R 1 18 (l3 + 1) := R_add f_866 f_876 1 18 (by decide)
            have g_877 := gap_inc (N := 18) f_866 (by decide)
            exact (ih.2) l2 (l3 + 1) h  ok (R_w fl2 (by decide)) (R_w f_875 (by decide)) (by omega)
          · have f_878 : R (-2147483648) 2147483647 r4 := R_full _
            have f_879 : R 0 0 0 := ⟨by decide, by decide⟩
            have f_880 : R 0 0 r4 := rf_eq f_879 c_872
            refine ⟨vin fl2 (by decide), ?_⟩
            refine ⟨vin fl2 (by decide), ?_⟩
            have f_882 : R 1 1 1 := ⟨by decide, by decide⟩
            have f_881 : R 1 18 (l3 + 1) := R_add f_866 f_882 1 18 (by decide)
            have f_884 : R (-2147483648) 2147483647 (mI h 32 l2.toNatClampNeg) := R_full _
            have f_885 : R 1 131072 (1 <<< (l3 &&& 31)) := R_shl f_866 1 131072 0 17 (by decide)
            have f_883 : R (-2147483648) 2147483647 ((mI h 32 l2.toNatClampNeg) ||| (1 <<< (l3 &&& 31))) := R_full _
            have ok_886 := OkC_w ok (k := 32) (j := l2.toNatClampNeg) (v := ((mI h 32 l2.toNatClampNeg) ||| (1 <<< (l3 &&& 31)))) (lo := (-2147483648)) (hi := 2147483647) (rgc_32 _) f_883 rfl (fun z => by cases z.1)
            have g_887 := gap_inc (N := 18) f_866 (by decide)
            exact (ih.2) l2 (l3 + 1) (wI h 32 l2.toNatClampNeg ((mI h 32 l2.toNatClampNeg) ||| (1 <<< (l3 &&& 31))))  ok_886 (R_w fl2 (by decide)) (R_w f_881 (by decide)) (by omega)
set_option maxRecDepth 100000 in
set_option maxHeartbeats 4000000 in
theorem s_X3_open {g : gT} {h : mh_T} {P : mh_T → Prop}  (hG : GI h)  (hp : ∀ h', OkC h h' → P h') : MCv g yX3_open uX3_open [.ref 8, .ref 2] h P := by
  have ok : OkC h h := OkC_rf hG
  have L0 := s_X3_open_L (g := g) hG hp 380
  refine e_X3_open   ?_
  have f_888 : R 0 0 0 := ⟨by decide, by decide⟩
  have f_889 : R 0 18 (mI h 2 5) := GI_rd ok.1 2 _ (by decide)
  have ok_890 := OkC_w ok (k := 8) (j := 0) (v := (mI h 2 5)) (lo := 0) (hi := 18) (by decide) f_889 rfl (by decide)
  have f_891 : R 0 0 0 := ⟨by decide, by decide⟩
  have ok_892 := OkC_w ok_890 (k := 8) (j := 8) (v := 0) (lo := 0) (hi := 1) (by decide) (R_w f_891 (by decide)) rfl (by decide)
  have f_893 : R 0 0 0 := ⟨by decide, by decide⟩
  have g_894 := gap_le (N := 18) f_893 (m := 18) (by decide)
  exact (L0.1) 0 (wI (wI h 8 0 (mI h 2 5)) 8 8 0)  ok_892 (R_w f_888 (by decide)) (by omega)
set_option maxRecDepth 100000 in
set_option maxHeartbeats 4000000 in
theorem s_X3_hasRay {g : gT} {h : mh_T} {P : Int32 → mh_T → Prop} (l1 : Int32) (hG : GI h)  (hp : ∀ r : Int32, R 0 1 r → (¬ r = 0 → R 0 17 l1) → P r h) : MCi g yX3_hasRay uX3_hasRay [.ref 8, .int l1] h P := by
  have ok : OkC h h := OkC_rf hG
  refine e_X3_hasRay l1  ?_
  refine ⟨fun c_14 => ?_, fun c_14 => ?_⟩
  · have f_15 : R 0 0 0 := ⟨by decide, by decide⟩
    have f_16 : R (-2147483648) (-1) l1 := rf_lt_l (R_full l1) f_15 c_14 (-1) (by decide)
    have f_17 : R 0 0 0 := ⟨by decide, by decide⟩
    exact hp _ (R_w f_17 (by decide)) (fun z => absurd rfl z)
  · have f_18 : R 0 0 0 := ⟨by decide, by decide⟩
    have f_19 : R 0 2147483647 l1 := rf_le_r f_18 (R_full l1) (nlt c_14) 0 (by decide)
    refine ⟨fun c_20 => ?_, fun c_20 => ?_⟩
    · have f_21 : R 0 18 (mI h 8 0) := GI_rd ok.1 8 _ (by decide)
      have f_22 : R 0 0 0 := ⟨by decide, by decide⟩
      exact hp _ (R_w f_22 (by decide)) (fun z => absurd rfl z)
    · have f_23 : R 0 18 (mI h 8 0) := GI_rd ok.1 8 _ (by decide)
      have f_24 : R 0 17 l1 := rf_lt_l f_19 f_23 (nle c_20) 17 (by decide)
      have f_25 : R 1 18 (mI h 8 0) := rf_lt_r f_19 f_23 (nle c_20) 1 (by decide)
      have f_26 : R 1 1 1 := ⟨by decide, by decide⟩
      exact hp _ (R_w f_26 (by decide)) (fun _ => R_w f_24 (by decide))
set_option maxRecDepth 100000 in
set_option maxHeartbeats 4000000 in
theorem s_J6_bitCount_0f7a4 {g : gT} {h : mh_T} {P : Int32 → mh_T → Prop} (l0 : Int32) (hG : GI h)  (hp : ∀ r : Int32, R 0 63 r → P r h) : MCi g yJ6_bitCount_0f7a4 uJ6_bitCount_0f7a4 [.int l0] h P := by
  have ok : OkC h h := OkC_rf hG
  refine e_J6_bitCount_0f7a4 l0  ?_
  intro x1 ex1
  have f_24 : R 1431655765 1431655765 1431655765 := ⟨by decide, by decide⟩
  have f_23 : R 0 1431655765 (((l0.toUInt32 >>> (Int32.toUInt32 1 &&& Int32.toUInt32 31)).toInt32) &&& 1431655765) := R_and f_24 (by decide)
  have f_22 : R (-2147483648) 2147483647 (l0 - (((l0.toUInt32 >>> (Int32.toUInt32 1 &&& Int32.toUInt32 31)).toInt32) &&& 1431655765)) := R_full _
  have f_25 : R (-2147483648) 2147483647 x1 := rf_eq f_22 ex1
  intro x2 ex2
  have f_28 : R 858993459 858993459 858993459 := ⟨by decide, by decide⟩
  have f_27 : R 0 858993459 (x1 &&& 858993459) := R_and f_28 (by decide)
  have f_30 : R 858993459 858993459 858993459 := ⟨by decide, by decide⟩
  have f_29 : R 0 858993459 (((x1.toUInt32 >>> (Int32.toUInt32 2 &&& Int32.toUInt32 31)).toInt32) &&& 858993459) := R_and f_30 (by decide)
  have f_26 : R 0 1717986918 ((x1 &&& 858993459) + (((x1.toUInt32 >>> (Int32.toUInt32 2 &&& Int32.toUInt32 31)).toInt32) &&& 858993459)) := R_add f_27 f_29 0 1717986918 (by decide)
  have f_31 : R 0 1717986918 x2 := rf_eq f_26 ex2
  intro x3 ex3
  have f_33 : R 252645135 252645135 252645135 := ⟨by decide, by decide⟩
  have f_32 : R 0 252645135 ((x2 + ((x2.toUInt32 >>> (Int32.toUInt32 4 &&& Int32.toUInt32 31)).toInt32)) &&& 252645135) := R_and f_33 (by decide)
  have f_34 : R 0 252645135 x3 := rf_eq f_32 ex3
  intro x4 ex4
  have f_36 : R (-2147483648) 2147483647 ((x3.toUInt32 >>> (Int32.toUInt32 8 &&& Int32.toUInt32 31)).toInt32) := R_full _
  have f_35 : R (-2147483648) 2147483647 (x3 + ((x3.toUInt32 >>> (Int32.toUInt32 8 &&& Int32.toUInt32 31)).toInt32)) := R_full _
  have f_37 : R (-2147483648) 2147483647 x4 := rf_eq f_35 ex4
  intro x5 ex5
  have f_39 : R (-2147483648) 2147483647 ((x4.toUInt32 >>> (Int32.toUInt32 16 &&& Int32.toUInt32 31)).toInt32) := R_full _
  have f_38 : R (-2147483648) 2147483647 (x4 + ((x4.toUInt32 >>> (Int32.toUInt32 16 &&& Int32.toUInt32 31)).toInt32)) := R_full _
  have f_40 : R (-2147483648) 2147483647 x5 := rf_eq f_38 ex5
  have f_42 : R 63 63 63 := ⟨by decide, by decide⟩
  have f_41 : R 0 63 (x5 &&& 63) := R_and f_42 (by decide)
  exact hp _ (R_w f_41 (by decide))
set_option maxRecDepth 100000 in
set_option maxHeartbeats 4000000 in
theorem s_X3_mostMet_L {g : gT} {h0 : mh_T} {P : Int32 → mh_T → Prop} (hG0 : GI h0) (hp : ∀ r : Int32, R (-1) 17 r → P r h0) : ∀ n : Nat, (∀ (l1 : Int32) (l2 : Int32) (l3 : Int32) (l4 : Int32), R (-2147483648) 2147483647 l1 → R (-1) 17 l2 → R 0 63 l3 → R 0 18 l4 → 1 * gap 18 l4 + 0 < n → ME g uX3_mostMet 7 [.ref 8, .int l1, .int l2, .int l3, .int l4] [] h0 (qI P)) := by
  intro n
  induction n with
  | zero =>
    exact (fun _ _ _ _ _ _ _ _ hm => absurd hm (Nat.not_lt_zero _))
  | succ n ih =>
    intro l1 l2 l3 l4  fl1 fl2 fl3 fl4 hm
    have ok : OkC h0 h0 := OkC_rf hG0
    refine r_X3_mostMet_7 l1 l2 l3 l4  ?_
    refine ⟨fun c_424 => ?_, fun c_424 => ?_⟩
    · have f_425 : R 0 18 (mI h0 8 0) := GI_rd ok.1 8 _ (by decide)
      exact hp _ (R_w fl2 (by decide))
    · have f_426 : R 0 18 (mI h0 8 0) := GI_rd ok.1 8 _ (by decide)
      have f_427 : R 0 17 l4 := rf_lt_l fl4 f_426 (nle c_424) 17 (by decide)
      have f_428 : R 1 18 (mI h0 8 0) := rf_lt_r fl4 f_426 (nle c_424) 1 (by decide)
      refine ⟨fun c_429 => ?_, fun c_429 => ?_⟩
      · have f_431 : R 1 1 1 := ⟨by decide, by decide⟩
        have f_430 : R 0 1 ((l1 >>> (l4 &&& 31)) &&& 1) := R_and f_431 (by decide)
        have f_432 : R 0 0 0 := ⟨by decide, by decide⟩
        have f_433 : R 0 0 ((l1 >>> (l4 &&& 31)) &&& 1) := rf_eq f_432 c_429
        have f_435 : R 1 1 1 := ⟨by decide, by decide⟩
        have f_434 : R 1 18 (l4 + 1) := R_add f_427 f_435 1 18 (by decide)
        have g_436 := gap_inc (N := 18) f_427 (by decide)
        exact ih l1 l2 l3 (l4 + 1)  (R_w fl1 (by decide)) (R_w fl2 (by decide)) (R_w fl3 (by decide)) (R_w f_434 (by decide)) (by omega)
      · have f_438 : R 1 1 1 := ⟨by decide, by decide⟩
        have f_437 : R 0 1 ((l1 >>> (l4 &&& 31)) &&& 1) := R_and f_438 (by decide)
        have f_439 : R 0 0 0 := ⟨by decide, by decide⟩
        have f_440 : R 1 1 ((l1 >>> (l4 &&& 31)) &&& 1) := rf_ne_lo f_437 c_429 (by decide) 1 rfl
        refine ⟨vin f_427 (by decide), ?_⟩
        refine s_J6_bitCount_0f7a4 (l1 &&& (mI h0 32 l4.toNatClampNeg)) ok.1 (fun r5 f_441 => ?_)
        refine ⟨fun c_442 => ?_, fun c_442 => ?_⟩
        · have f_444 : R 1 1 1 := ⟨by decide, by decide⟩
          have f_443 : R 1 18 (l4 + 1) := R_add f_427 f_444 1 18 (by decide)
          have g_445 := gap_inc (N := 18) f_427 (by decide)
          exact ih l1 l2 l3 (l4 + 1)  (R_w fl1 (by decide)) (R_w fl2 (by decide)) (R_w fl3 (by decide)) (R_w f_443 (by decide)) (by omega)
        · have f_446 : R 0 62 l3 := rf_lt_l fl3 f_441 (nle c_442) 62 (by decide)
          have f_447 : R 1 63 r5 := rf_lt_r fl3 f_441 (nle c_442) 1 (by decide)
          refine ⟨vin f_427 (by decide), ?_⟩
          refine s_J6_bitCount_0f7a4 (l1 &&& (mI h0 32 l4.toNatClampNeg)) ok.1 (fun r9 f_448 => ?_)
          have f_450 : R 1 1 1 := ⟨by decide, by decide⟩
          have f_449 : R 1 18 (l4 + 1) := R_add f_427 f_450 1 18 (by decide)
          have g_451 := gap_inc (N := 18) f_427 (by decide)
          exact ih l1 l4 r9 (l4 + 1)  (R_w fl1 (by decide)) (R_w f_427 (by decide)) (R_w f_448 (by decide)) (R_w f_449 (by decide)) (by omega)
set_option maxRecDepth 100000 in
set_option maxHeartbeats 4000000 in
theorem s_X3_mostMet {g : gT} {h : mh_T} {P : Int32 → mh_T → Prop} (l1 : Int32) (hG : GI h)  (hp : ∀ r : Int32, R (-1) 17 r → P r h) : MCi g yX3_mostMet uX3_mostMet [.ref 8, .int l1] h P := by
  have ok : OkC h h := OkC_rf hG
  have L0 := s_X3_mostMet_L (g := g) hG hp 19
  refine e_X3_mostMet l1  ?_
  have f_452 : R (-1) (-1) (-1) := ⟨by decide, by decide⟩
  have f_453 : R 0 0 0 := ⟨by decide, by decide⟩
  have f_454 : R 0 0 0 := ⟨by decide, by decide⟩
  have f_455 : R 0 0 0 := ⟨by decide, by decide⟩
  have g_456 := gap_le (N := 18) f_455 (m := 18) (by decide)
  exact L0 l1 (-1) 0 0  (R_w (R_full l1) (by decide)) (R_w f_452 (by decide)) (R_w f_453 (by decide)) (R_w f_454 (by decide)) (by omega)
set_option maxRecDepth 100000 in
set_option maxHeartbeats 4000000 in
theorem s_X10_bitAt_L {g : gT} {h0 : mh_T} {P : Int32 → mh_T → Prop} (hG0 : GI h0) (hp : ∀ r : Int32, R (-1) 31 r → P r h0) : ∀ n : Nat, (∀ (l0 : Int32) (l1 : Int32) (l2 : Int32) (l3 : Int32), R (-2147483648) 2147483647 l0 → R (-2147483648) 2147483647 l1 → R (-2147483648) 2147483647 l2 → R 0 32 l3 → 1 * gap 32 l3 + 0 < n → ME g uX10_bitAt 4 [.int l0, .int l1, .int l2, .int l3] [] h0 (qI P)) := by
  intro n
  induction n with
  | zero =>
    exact (fun _ _ _ _ _ _ _ _ hm => absurd hm (Nat.not_lt_zero _))
  | succ n ih =>
    intro l0 l1 l2 l3  fl0 fl1 fl2 fl3 hm
    have ok : OkC h0 h0 := OkC_rf hG0
    refine r_X10_bitAt_4 l0 l1 l2 l3  ?_
    refine ⟨fun c_1333 => ?_, fun c_1333 => ?_⟩
    · have f_1334 : R 32 32 32 := ⟨by decide, by decide⟩
      have f_1335 : R 32 32 l3 := rf_le_r f_1334 fl3 c_1333 32 (by decide)
      have f_1336 : R (-1) (-1) (-1) := ⟨by decide, by decide⟩
      exact hp _ (R_w f_1336 (by decide))
    · have f_1337 : R 32 32 32 := ⟨by decide, by decide⟩
      have f_1338 : R 0 31 l3 := rf_lt_l fl3 f_1337 (nle c_1333) 31 (by decide)
      refine ⟨fun c_1339 => ?_, fun c_1339 => ?_⟩
      · have f_1341 : R 1 1 1 := ⟨by decide, by decide⟩
        have f_1340 : R 0 1 (((l0.toUInt32 >>> (l3.toUInt32 &&& Int32.toUInt32 31)).toInt32) &&& 1) := R_and f_1341 (by decide)
        have f_1342 : R 0 0 0 := ⟨by decide, by decide⟩
        have f_1343 : R 0 0 (((l0.toUInt32 >>> (l3.toUInt32 &&& Int32.toUInt32 31)).toInt32) &&& 1) := rf_eq f_1342 c_1339
        have f_1345 : R 1 1 1 := ⟨by decide, by decide⟩
        have f_1344 : R 1 32 (l3 + 1) := R_add f_1338 f_1345 1 32 (by decide)
        have g_1346 := gap_inc (N := 32) f_1338 (by decide)
        exact ih l0 l1 l2 (l3 + 1)  (R_w fl0 (by decide)) (R_w fl1 (by decide)) (R_w fl2 (by decide)) (R_w f_1344 (by decide)) (by omega)
      · have f_1348 : R 1 1 1 := ⟨by decide, by decide⟩
        have f_1347 : R 0 1 (((l0.toUInt32 >>> (l3.toUInt32 &&& Int32.toUInt32 31)).toInt32) &&& 1) := R_and f_1348 (by decide)
        have f_1349 : R 0 0 0 := ⟨by decide, by decide⟩
        have f_1350 : R 1 1 (((l0.toUInt32 >>> (l3.toUInt32 &&& Int32.toUInt32 31)).toInt32) &&& 1) := rf_ne_lo f_1347 c_1339 (by decide) 1 rfl
        refine ⟨fun c_1351 => ?_, fun c_1351 => ?_⟩
        · have f_1353 : R 1 1 1 := ⟨by decide, by decide⟩
          have f_1352 : R (-2147483648) 2147483647 (l2 + 1) := R_full _
          have f_1355 : R 1 1 1 := ⟨by decide, by decide⟩
          have f_1354 : R 1 32 (l3 + 1) := R_add f_1338 f_1355 1 32 (by decide)
          have g_1356 := gap_inc (N := 32) f_1338 (by decide)
          exact ih l0 l1 (l2 + 1) (l3 + 1)  (R_w fl0 (by decide)) (R_w fl1 (by decide)) (R_w f_1352 (by decide)) (R_w f_1354 (by decide)) (by omega)
        · exact hp _ (R_w f_1338 (by decide))
set_option maxRecDepth 100000 in
set_option maxHeartbeats 4000000 in
theorem s_X10_bitAt {g : gT} {h : mh_T} {P : Int32 → mh_T → Prop} (l0 : Int32) (l1 : Int32) (hG : GI h)  (hp : ∀ r : Int32, R (-1) 31 r → P r h) : MCi g yX10_bitAt uX10_bitAt [.int l0, .int l1] h P := by
  have ok : OkC h h := OkC_rf hG
  have L0 := s_X10_bitAt_L (g := g) hG hp 33
  refine e_X10_bitAt l0 l1  ?_
  have f_1357 : R 0 0 0 := ⟨by decide, by decide⟩
  have f_1358 : R 0 0 0 := ⟨by decide, by decide⟩
  have f_1359 : R 0 0 0 := ⟨by decide, by decide⟩
  have g_1360 := gap_le (N := 32) f_1359 (m := 32) (by decide)
  exact L0 l0 l1 0 0  (R_w (R_full l0) (by decide)) (R_w (R_full l1) (by decide)) (R_w f_1357 (by decide)) (R_w f_1358 (by decide)) (by omega)
set_option maxRecDepth 100000 in
set_option maxHeartbeats 4000000 in
theorem s_X4_open {g : gT} {h : mh_T} {P : mh_T → Prop}  (hG : GI h)  (hp : ∀ h', OkC h h' → P h') : MCv g yX4_open uX4_open [.ref 10] h P := by
  have ok : OkC h h := OkC_rf hG
  refine e_X4_open   ?_
  have f_7 : R 0 0 0 := ⟨by decide, by decide⟩
  have ok_8 := OkC_w ok (k := 10) (j := 0) (v := 0) (lo := 0) (hi := 20) (by decide) (R_w f_7 (by decide)) rfl (by decide)
  have f_9 : R 0 0 0 := ⟨by decide, by decide⟩
  have ok_10 := OkC_w ok_8 (k := 10) (j := 1) (v := 0) (lo := 0) (hi := 20) (by decide) (R_w f_9 (by decide)) rfl (by decide)
  have f_11 : R 0 0 0 := ⟨by decide, by decide⟩
  have ok_12 := OkC_w ok_10 (k := 10) (j := 2) (v := 0) (lo := 0) (hi := 4) (by decide) (R_w f_11 (by decide)) rfl (by decide)
  exact hp _ ok_12
set_option maxRecDepth 100000 in
set_option maxHeartbeats 4000000 in
theorem s_X4_tellMove {g : gT} {h : mh_T} {P : mh_T → Prop} (l1 : Int32) (l2 : Int32) (l3 : Int32) (hG : GI h)  (hp : ∀ h', OkC h h' → P h') : MCv g yX4_tellMove uX4_tellMove [.ref 10, .int l1, .int l2, .int l3] h P := by
  have ok : OkC h h := OkC_rf hG
  refine e_X4_tellMove l1 l2 l3  ?_
  refine ⟨fun c_16 => ?_, fun c_16 => ?_⟩
  · have f_17 : R 0 20 (mI h 10 0) := GI_rd ok.1 10 _ (by decide)
    have f_18 : R 0 0 0 := ⟨by decide, by decide⟩
    have f_19 : R 0 0 (mI h 10 0) := rf_le_l f_17 f_18 c_16 0 (by decide)
    exact hp _ ok
  · have f_20 : R 0 20 (mI h 10 0) := GI_rd ok.1 10 _ (by decide)
    have f_21 : R 0 0 0 := ⟨by decide, by decide⟩
    have f_22 : R 1 20 (mI h 10 0) := rf_lt_r f_21 f_20 (nle c_16) 1 (by decide)
    have f_24 : R 1 1 1 := ⟨by decide, by decide⟩
    have f_23 : R 0 19 ((mI h 10 0) - 1) := R_sub f_22 f_24 0 19 (by decide)
    refine ⟨vin f_23 (by decide), ?_⟩
    refine ⟨ok.1.2.1 _ (ix_lt f_23 (by decide)), ?_⟩
    have f_25 : R 2 2 2 := ⟨by decide, by decide⟩
    refine ⟨vin f_25 (by decide), ?_⟩
    have f_26 : R 3 3 3 := ⟨by decide, by decide⟩
    refine ⟨vin f_26 (by decide), ?_⟩
    have f_27 : R 4 4 4 := ⟨by decide, by decide⟩
    refine ⟨vin f_27 (by decide), ?_⟩
    have ok_28 := OkC_w ok (k := (mR h 40 ((mI h 10 0) - 1).toNatClampNeg)) (j := (Int32.toNatClampNeg 2)) (v := l1) (rg_5 (ok.1.2.1 _ (ix_lt f_23 (by decide))) _) (R_full _) (isM_5 (ok.1.2.1 _ (ix_lt f_23 (by decide)))) (fun z => ne0_5 (ok.1.2.1 _ (ix_lt f_23 (by decide))) z.1)
    have ok_29 := OkC_w ok_28 (k := (mR h 40 ((mI h 10 0) - 1).toNatClampNeg)) (j := (Int32.toNatClampNeg 3)) (v := l2) (rg_5 (ok.1.2.1 _ (ix_lt f_23 (by decide))) _) (R_full _) (isM_5 (ok.1.2.1 _ (ix_lt f_23 (by decide)))) (fun z => ne0_5 (ok.1.2.1 _ (ix_lt f_23 (by decide))) z.1)
    have ok_30 := OkC_w ok_29 (k := (mR h 40 ((mI h 10 0) - 1).toNatClampNeg)) (j := (Int32.toNatClampNeg 4)) (v := l3) (rg_5 (ok.1.2.1 _ (ix_lt f_23 (by decide))) _) (R_full _) (isM_5 (ok.1.2.1 _ (ix_lt f_23 (by decide)))) (fun z => ne0_5 (ok.1.2.1 _ (ix_lt f_23 (by decide))) z.1)
    exact hp _ ok_30
set_option maxRecDepth 100000 in
set_option maxHeartbeats 4000000 in
theorem s_X8_clearCoins_L {g : gT} {h0 : mh_T} {P : mh_T → Prop} (hG0 : GI h0) (hp : ∀ h', OkC h0 h' → P h') : ∀ n : Nat, (∀ (l1 : Int32) (h : mh_T), OkC h0 h → R 0 32 l1 → 1 * gap 32 l1 + 0 < n → ME g uX8_clearCoins 2 [.ref 3, .int l1] [] h (qV P)) := by
  intro n
  induction n with
  | zero =>
    exact (fun _ _ _ _ hm => absurd hm (Nat.not_lt_zero _))
  | succ n ih =>
    intro l1 h  ok fl1 hm
    refine r_X8_clearCoins_2 l1  ?_
    refine ⟨fun c_164 => ?_, fun c_164 => ?_⟩
    · have f_165 : R 32 32 32 := ⟨by decide, by decide⟩
      have f_166 : R 32 32 l1 := rf_le_r f_165 fl1 c_164 32 (by decide)
      exact hp _ ok
    · have f_167 : R 32 32 32 := ⟨by decide, by decide⟩
      have f_168 : R 0 31 l1 := rf_lt_l fl1 f_167 (nle c_164) 31 (by decide)
      refine ⟨vin f_168 (by decide), ?_⟩
      have f_170 : R 1 1 1 := ⟨by decide, by decide⟩
      have f_169 : R 1 32 (l1 + 1) := R_add f_168 f_170 1 32 (by decide)
      have f_171 : R 0 0 0 := ⟨by decide, by decide⟩
      have ok_172 := OkC_w ok (k := 27) (j := l1.toNatClampNeg) (v := 0) (lo := (-2147483648)) (hi := 2147483647) (rgc_27 _) (R_w f_171 (by decide)) rfl (fun z => by cases z.1)
      have g_173 := gap_inc (N := 32) f_168 (by decide)
      exact ih (l1 + 1) (wI h 27 l1.toNatClampNeg 0)  ok_172 (R_w f_169 (by decide)) (by omega)
set_option maxRecDepth 100000 in
set_option maxHeartbeats 4000000 in
theorem s_X8_clearCoins {g : gT} {h : mh_T} {P : mh_T → Prop}  (hG : GI h)  (hp : ∀ h', OkC h h' → P h') : MCv g yX8_clearCoins uX8_clearCoins [.ref 3] h P := by
  have ok : OkC h h := OkC_rf hG
  have L0 := s_X8_clearCoins_L (g := g) hG hp 33
  refine e_X8_clearCoins   ?_
  have f_174 : R 0 0 0 := ⟨by decide, by decide⟩
  have f_175 : R 0 0 0 := ⟨by decide, by decide⟩
  have g_176 := gap_le (N := 32) f_175 (m := 32) (by decide)
  exact L0 0 h  ok (R_w f_174 (by decide)) (by omega)
set_option maxRecDepth 100000 in
set_option maxHeartbeats 4000000 in
theorem s_X5_soLines_L {g : gT} {h0 : mh_T} {P : Int32 → mh_T → Prop} (hG0 : GI h0) (hp : ∀ r : Int32, R 0 255 r → P r h0) : ∀ n : Nat, (∀ (l2 : Int32) (l3 : Int32) (l4 : Int32), R (-2147483648) 2147483647 l2 → R 0 255 l3 → R 0 8 l4 → 1 * gap 8 l4 + 0 < n → ME g uX5_soLines 5 [.ref 7, .ref 2, .int l2, .int l3, .int l4] [] h0 (qI P)) := by
  intro n
  induction n with
  | zero =>
    exact (fun _ _ _ _ _ _ hm => absurd hm (Nat.not_lt_zero _))
  | succ n ih =>
    intro l2 l3 l4  fl2 fl3 fl4 hm
    have ok : OkC h0 h0 := OkC_rf hG0
    refine r_X5_soLines_5 l2 l3 l4  ?_
    refine ⟨fun c_183 => ?_, fun c_183 => ?_⟩
    · have f_184 : R 0 8 (mI h0 7 1) := GI_rd ok.1 7 _ (by decide)
      exact hp _ (R_w fl3 (by decide))
    · have f_185 : R 0 8 (mI h0 7 1) := GI_rd ok.1 7 _ (by decide)
      have f_186 : R 0 7 l4 := rf_lt_l fl4 f_185 (nle c_183) 7 (by decide)
      have f_187 : R 1 8 (mI h0 7 1) := rf_lt_r fl4 f_185 (nle c_183) 1 (by decide)
      refine ⟨vin f_186 (by decide), ?_⟩
      refine s_J6_bitCount_0f7a4 (l2 &&& (mI h0 18 l4.toNatClampNeg)) ok.1 (fun r4 f_188 => ?_)
      refine ⟨vin f_186 (by decide), ?_⟩
      refine ⟨fun c_189 => ?_, fun c_189 => ?_⟩
      · have f_190 : R (-2147483648) 2147483647 (r4 - r4 / 2 * 2) := R_full _
        have f_191 : R (-2147483648) 2147483647 (mI h0 19 l4.toNatClampNeg) := R_full _
        have f_193 : R 1 1 1 := ⟨by decide, by decide⟩
        have f_192 : R 1 8 (l4 + 1) := R_add f_186 f_193 1 8 (by decide)
        have g_194 := gap_inc (N := 8) f_186 (by decide)
        exact ih l2 l3 (l4 + 1)  (R_w fl2 (by decide)) (R_w fl3 (by decide)) (R_w f_192 (by decide)) (by omega)
      · have f_195 : R (-2147483648) 2147483647 (r4 - r4 / 2 * 2) := R_full _
        have f_196 : R (-2147483648) 2147483647 (mI h0 19 l4.toNatClampNeg) := R_full _
        intro x7 ex7
        have f_198 : R 1 128 (1 <<< (l4 &&& 31)) := R_shl f_186 1 128 0 7 (by decide)
        have f_197 : R 0 255 (l3 ||| (1 <<< (l4 &&& 31))) := R_or fl3 f_198 8 255 (by decide)
        have f_199 : R 0 255 x7 := rf_eq f_197 ex7
        have f_201 : R 1 1 1 := ⟨by decide, by decide⟩
        have f_200 : R 1 8 (l4 + 1) := R_add f_186 f_201 1 8 (by decide)
        have g_202 := gap_inc (N := 8) f_186 (by decide)
        exact ih l2 x7 (l4 + 1)  (R_w fl2 (by decide)) (R_w f_199 (by decide)) (R_w f_200 (by decide)) (by omega)
set_option maxRecDepth 100000 in
set_option maxHeartbeats 4000000 in
theorem s_X5_soLines {g : gT} {h : mh_T} {P : Int32 → mh_T → Prop} (l2 : Int32) (hG : GI h)  (hp : ∀ r : Int32, R 0 255 r → P r h) : MCi g yX5_soLines uX5_soLines [.ref 7, .ref 2, .int l2] h P := by
  have ok : OkC h h := OkC_rf hG
  have L0 := s_X5_soLines_L (g := g) hG hp 9
  refine e_X5_soLines l2  ?_
  have f_203 : R 0 0 0 := ⟨by decide, by decide⟩
  have f_204 : R 0 0 0 := ⟨by decide, by decide⟩
  have f_205 : R 0 0 0 := ⟨by decide, by decide⟩
  have g_206 := gap_le (N := 8) f_205 (m := 8) (by decide)
  exact L0 l2 0 0  (R_w (R_full l2) (by decide)) (R_w f_203 (by decide)) (R_w f_204 (by decide)) (by omega)
set_option maxRecDepth 100000 in
set_option maxHeartbeats 4000000 in
theorem s_X5_spread_L {g : gT} {h0 : mh_T} {P : mh_T → Prop} (hG0 : GI h0) (hp : ∀ h', OkC h0 h' → P h') : ∀ n : Nat, (∀ (l1 : Int32) (h : mh_T), OkC h0 h → R 0 255 l1 → 10 * gad_ 0 l1 + 9 < n → ME g uX5_spread 9 [.ref 7, .int l1, .retAddr 0] [] h (qV P)) ∧ (∀ (l1 : Int32) (l2 : Int32) (h : mh_T), OkC h0 h → R 1 255 l1 → R 0 8 l2 → 1 * gap 8 l2 + 10 * gad_ 0 l1 + 0 < n → ME g uX5_spread 15 [.ref 7, .int l1, .int l2] [] h (qV P)) := by
  intro n
  induction n with
  | zero =>
    exact ⟨(fun _ _ _ _ hm => absurd hm (Nat.not_lt_zero _)), (fun _ _ _ _ _ _ hm => absurd hm (Nat.not_lt_zero _))⟩
  | succ n ih =>
    refine ⟨?_, ?_⟩
    · intro l1 h  ok fl1 hm
      refine r_X5_spread_9 l1  ?_
      refine ⟨fun c_296 => ?_, fun c_296 => ?_⟩
      · have f_297 : R 0 0 0 := ⟨by decide, by decide⟩
        have f_298 : R 0 0 l1 := rf_le_l fl1 f_297 c_296 0 (by decide)
        exact hp _ ok
      · have f_299 : R 0 0 0 := ⟨by decide, by decide⟩
        have f_300 : R 1 255 l1 := rf_lt_r f_299 fl1 (nle c_296) 1 (by decide)
        have f_301 : R 0 0 0 := ⟨by decide, by decide⟩
        have f_302 : R 0 0 0 := ⟨by decide, by decide⟩
        have g_303 := gap_le (N := 8) f_302 (m := 8) (by decide)
        exact (ih.2) l1 0 h  ok (R_w f_300 (by decide)) (R_w f_301 (by decide)) (by omega)
    · intro l1 l2 h  ok fl1 fl2 hm
      refine r_X5_spread_15 l1 l2  ?_
      refine ⟨vin fl1 (by decide), ?_⟩
      refine ⟨fun c_304 => ?_, fun c_304 => ?_⟩
      · have f_305 : R 0 1 (mI h 31 l1.toNatClampNeg) := GI_rd ok.1 31 _ rfl
        have f_306 : R 0 0 0 := ⟨by decide, by decide⟩
        have f_307 : R 0 0 (mI h 31 l1.toNatClampNeg) := rf_eq f_306 c_304
        have f_309 : R (-1) (-1) (-1) := ⟨by decide, by decide⟩
        have f_308 : R 0 254 (l1 + (-1)) := R_add fl1 f_309 0 254 (by decide)
        have g_310 := gad_dec (L := 0) fl1 (by decide)
        exact (ih.1) (l1 + (-1)) h  ok (R_w f_308 (by decide)) (by omega)
      · have f_311 : R 0 1 (mI h 31 l1.toNatClampNeg) := GI_rd ok.1 31 _ rfl
        have f_312 : R 0 0 0 := ⟨by decide, by decide⟩
        have f_313 : R 1 1 (mI h 31 l1.toNatClampNeg) := rf_ne_lo f_311 c_304 (by decide) 1 rfl
        refine ⟨fun c_314 => ?_, fun c_314 => ?_⟩
        · have f_315 : R 0 8 (mI h 7 1) := GI_rd ok.1 7 _ (by decide)
          have f_317 : R (-1) (-1) (-1) := ⟨by decide, by decide⟩
          have f_316 : R 0 254 (l1 + (-1)) := R_add fl1 f_317 0 254 (by decide)
          have g_318 := gad_dec (L := 0) fl1 (by decide)
          exact (ih.1) (l1 + (-1)) h  ok (R_w f_316 (by decide)) (by omega)
        · have f_319 : R 0 8 (mI h 7 1) := GI_rd ok.1 7 _ (by decide)
          have f_320 : R 0 7 l2 := rf_lt_l fl2 f_319 (nle c_314) 7 (by decide)
          have f_321 : R 1 8 (mI h 7 1) := rf_lt_r fl2 f_319 (nle c_314) 1 (by decide)
          have f_323 : R (-2147483648) 2147483647 ((1 <<< (l2 &&& 31)) ^^^ (-1)) := R_full _
          have f_322 : R 0 255 (l1 &&& ((1 <<< (l2 &&& 31)) ^^^ (-1))) := R_andl fl1 (by decide)
          refine ⟨vin f_322 (by decide), ?_⟩
          have f_325 : R 1 1 1 := ⟨by decide, by decide⟩
          have f_324 : R 1 8 (l2 + 1) := R_add f_320 f_325 1 8 (by decide)
          have f_326 : R 1 1 1 := ⟨by decide, by decide⟩
          have ok_327 := OkC_w ok (k := 31) (j := (l1 &&& ((1 <<< (l2 &&& 31)) ^^^ (-1))).toNatClampNeg) (v := 1) (lo := 0) (hi := 1) rfl (R_w f_326 (by decide)) rfl (fun z => by cases z.1)
          have g_328 := gap_inc (N := 8) f_320 (by decide)
          exact (ih.2) l1 (l2 + 1) (wI h 31 (l1 &&& ((1 <<< (l2 &&& 31)) ^^^ (-1))).toNatClampNeg 1)  ok_327 (R_w fl1 (by decide)) (R_w f_324 (by decide)) (by omega)
set_option maxRecDepth 100000 in
set_option maxHeartbeats 4000000 in
theorem s_X5_spread {g : gT} {h : mh_T} {P : mh_T → Prop}  (hG : GI h)  (hp : ∀ h', OkC h h' → P h') : MCv g yX5_spread uX5_spread [.ref 7] h P := by
  have ok : OkC h h := OkC_rf hG
  have L0 := s_X5_spread_L (g := g) hG hp 2560
  refine e_X5_spread   ?_
  intro x1 ex1
  have f_331 : R 0 8 (mI h 7 1) := GI_rd ok.1 7 _ (by decide)
  have f_330 : R 1 256 (1 <<< ((mI h 7 1) &&& 31)) := R_shl f_331 1 256 0 8 (by decide)
  have f_332 : R 1 1 1 := ⟨by decide, by decide⟩
  have f_329 : R 0 255 ((1 <<< ((mI h 7 1) &&& 31)) - 1) := R_sub f_330 f_332 0 255 (by decide)
  have f_333 : R 0 255 x1 := rf_eq f_329 ex1
  have g_334 := gad_le (L := 0) f_333 (m := 255) (by decide)
  exact (L0.1) x1 h  ok (R_w f_333 (by decide)) (by omega)
set_option maxRecDepth 100000 in
set_option maxHeartbeats 4000000 in
theorem s_X5_open_L {g : gT} {h0 : mh_T} {P : mh_T → Prop} (hG0 : GI h0) (hp : ∀ h', OkC h0 h' → P h') : ∀ n : Nat, (∀ (l2 : Int32) (l3 : Int32) (h : mh_T), OkC h0 h → R 0 255 l2 → R 0 256 l3 → 1 * gap 256 l3 + 513 < n → ME g uX5_open 42 [.ref 7, .ref 2, .int l2, .int l3, .retAddr 0] [] h (qV P)) ∧ (∀ (l2 : Int32) (l3 : Int32) (h : mh_T), OkC h0 h → R 0 255 l2 → R 0 512 l3 → 1 * gap 512 l3 + 0 < n → ME g uX5_open 62 [.ref 7, .ref 2, .int l2, .int l3, .retAddr 0] [] h (qV P)) := by
  intro n
  induction n with
  | zero =>
    exact ⟨(fun _ _ _ _ _ _ hm => absurd hm (Nat.not_lt_zero _)), (fun _ _ _ _ _ _ hm => absurd hm (Nat.not_lt_zero _))⟩
  | succ n ih =>
    refine ⟨?_, ?_⟩
    · intro l2 l3 h  ok fl2 fl3 hm
      refine r_X5_open_42 l2 l3  ?_
      refine ⟨fun c_1484 => ?_, fun c_1484 => ?_⟩
      · have f_1485 : R 1 256 l3 := rf_lt_r fl2 fl3 c_1484 1 (by decide)
        have f_1486 : R 0 0 0 := ⟨by decide, by decide⟩
        have f_1487 : R 0 0 0 := ⟨by decide, by decide⟩
        have g_1488 := gap_le (N := 512) f_1487 (m := 512) (by decide)
        exact (ih.2) l2 0 h  ok (R_w fl2 (by decide)) (R_w f_1486 (by decide)) (by omega)
      · have f_1489 : R 0 255 l3 := rf_le_l fl3 fl2 (nlt c_1484) 255 (by decide)
        refine ⟨vin f_1489 (by decide), ?_⟩
        have f_1491 : R 1 1 1 := ⟨by decide, by decide⟩
        have f_1490 : R 1 256 (l3 + 1) := R_add f_1489 f_1491 1 256 (by decide)
        have f_1492 : R 0 0 0 := ⟨by decide, by decide⟩
        have ok_1493 := OkC_w ok (k := 31) (j := l3.toNatClampNeg) (v := 0) (lo := 0) (hi := 1) rfl (R_w f_1492 (by decide)) rfl (fun z => by cases z.1)
        have g_1494 := gap_inc (N := 256) f_1489 (by decide)
        exact (ih.1) l2 (l3 + 1) (wI h 31 l3.toNatClampNeg 0)  ok_1493 (R_w fl2 (by decide)) (R_w f_1490 (by decide)) (by omega)
    · intro l2 l3 h  ok fl2 fl3 hm
      refine r_X5_open_62 l2 l3  ?_
      refine ⟨fun c_1495 => ?_, fun c_1495 => ?_⟩
      · have f_1497 : R 0 9 (mI h 7 0) := GI_rd ok.1 7 _ (by decide)
        have f_1496 : R 1 512 (1 <<< ((mI h 7 0) &&& 31)) := R_shl f_1497 1 512 0 9 (by decide)
        have f_1498 : R 1 512 l3 := rf_le_r f_1496 fl3 c_1495 1 (by decide)
        refine s_X5_spread ok.1 (fun h2 ko_1499 => ?_)
        have ok_1500 := OkC_tr ok ko_1499
        exact hp _ ok_1500
      · have f_1502 : R 0 9 (mI h 7 0) := GI_rd ok.1 7 _ (by decide)
        have f_1501 : R 1 512 (1 <<< ((mI h 7 0) &&& 31)) := R_shl f_1502 1 512 0 9 (by decide)
        have f_1503 : R 0 511 l3 := rf_lt_l fl3 f_1501 (nle c_1495) 511 (by decide)
        refine s_X5_soLines l3 ok.1 (fun r4 f_1504 => ?_)
        refine ⟨vin f_1504 (by decide), ?_⟩
        refine ⟨fun c_1505 => ?_, fun c_1505 => ?_⟩
        · have f_1507 : R 1 1 1 := ⟨by decide, by decide⟩
          have f_1506 : R 1 512 (l3 + 1) := R_add f_1503 f_1507 1 512 (by decide)
          have f_1508 : R 1 1 1 := ⟨by decide, by decide⟩
          have ok_1509 := OkC_w ok (k := 31) (j := r4.toNatClampNeg) (v := 1) (lo := 0) (hi := 1) rfl (R_w f_1508 (by decide)) rfl (fun z => by cases z.1)
          have g_1510 := gap_inc (N := 512) f_1503 (by decide)
          exact (ih.2) l2 (l3 + 1) (wI h 31 r4.toNatClampNeg 1)  ok_1509 (R_w fl2 (by decide)) (R_w f_1506 (by decide)) (by omega)
        · have f_1512 : R 1 1 1 := ⟨by decide, by decide⟩
          have f_1511 : R 1 512 (l3 + 1) := R_add f_1503 f_1512 1 512 (by decide)
          have f_1513 : R 1 1 1 := ⟨by decide, by decide⟩
          have ok_1514 := OkC_w ok (k := 31) (j := r4.toNatClampNeg) (v := 1) (lo := 0) (hi := 1) rfl (R_w f_1513 (by decide)) rfl (fun z => by cases z.1)
          have f_1517 : R (-2147483648) 2147483647 (mI h 7 2) := R_full _
          have f_1516 : R (-2147483648) 2147483647 (mI (wI h 31 r4.toNatClampNeg 1) 7 2) := (rd_ne f_1517 (by decide))
          have f_1518 : R 1 1 1 := ⟨by decide, by decide⟩
          have f_1515 : R (-2147483648) 2147483647 ((mI (wI h 31 r4.toNatClampNeg 1) 7 2) + 1) := R_full _
          have ok_1519 := OkC_w ok_1514 (k := 7) (j := 2) (v := ((mI (wI h 31 r4.toNatClampNeg 1) 7 2) + 1)) (lo := (-2147483648)) (hi := 2147483647) (by decide) f_1515 rfl (by decide)
          have f_1523 : R (-2147483648) 2147483647 (mI h 7 3) := R_full _
          have f_1522 : R (-2147483648) 2147483647 (mI (wI h 31 r4.toNatClampNeg 1) 7 3) := (rd_ne f_1523 (by decide))
          have f_1521 : R (-2147483648) 2147483647 (mI (wI (wI h 31 r4.toNatClampNeg 1) 7 2 ((mI (wI h 31 r4.toNatClampNeg 1) 7 2) + 1)) 7 3) := f_1522
          have f_1520 : R (-2147483648) 2147483647 ((mI (wI (wI h 31 r4.toNatClampNeg 1) 7 2 ((mI (wI h 31 r4.toNatClampNeg 1) 7 2) + 1)) 7 3) ||| l3) := R_full _
          have ok_1524 := OkC_w ok_1519 (k := 7) (j := 3) (v := ((mI (wI (wI h 31 r4.toNatClampNeg 1) 7 2 ((mI (wI h 31 r4.toNatClampNeg 1) 7 2) + 1)) 7 3) ||| l3)) (lo := (-2147483648)) (hi := 2147483647) (by decide) f_1520 rfl (by decide)
          have f_1529 : R (-2147483648) 2147483647 (mI h 7 4) := R_full _
          have f_1528 : R (-2147483648) 2147483647 (mI (wI h 31 r4.toNatClampNeg 1) 7 4) := (rd_ne f_1529 (by decide))
          have f_1527 : R (-2147483648) 2147483647 (mI (wI (wI h 31 r4.toNatClampNeg 1) 7 2 ((mI (wI h 31 r4.toNatClampNeg 1) 7 2) + 1)) 7 4) := f_1528
          have f_1526 : R (-2147483648) 2147483647 (mI (wI (wI (wI h 31 r4.toNatClampNeg 1) 7 2 ((mI (wI h 31 r4.toNatClampNeg 1) 7 2) + 1)) 7 3 ((mI (wI (wI h 31 r4.toNatClampNeg 1) 7 2 ((mI (wI h 31 r4.toNatClampNeg 1) 7 2) + 1)) 7 3) ||| l3)) 7 4) := f_1527
          have f_1530 : R (-2147483648) 2147483647 (l3 ^^^ (-1)) := R_full _
          have f_1525 : R (-2147483648) 2147483647 ((mI (wI (wI (wI h 31 r4.toNatClampNeg 1) 7 2 ((mI (wI h 31 r4.toNatClampNeg 1) 7 2) + 1)) 7 3 ((mI (wI (wI h 31 r4.toNatClampNeg 1) 7 2 ((mI (wI h 31 r4.toNatClampNeg 1) 7 2) + 1)) 7 3) ||| l3)) 7 4) ||| (l3 ^^^ (-1))) := R_full _
          have ok_1531 := OkC_w ok_1524 (k := 7) (j := 4) (v := ((mI (wI (wI (wI h 31 r4.toNatClampNeg 1) 7 2 ((mI (wI h 31 r4.toNatClampNeg 1) 7 2) + 1)) 7 3 ((mI (wI (wI h 31 r4.toNatClampNeg 1) 7 2 ((mI (wI h 31 r4.toNatClampNeg 1) 7 2) + 1)) 7 3) ||| l3)) 7 4) ||| (l3 ^^^ (-1)))) (lo := (-2147483648)) (hi := 2147483647) (by decide) f_1525 rfl (by decide)
          have g_1532 := gap_inc (N := 512) f_1503 (by decide)
          exact (ih.2) l2 (l3 + 1) (wI (wI (wI (wI h 31 r4.toNatClampNeg 1) 7 2 ((mI (wI h 31 r4.toNatClampNeg 1) 7 2) + 1)) 7 3 ((mI (wI (wI h 31 r4.toNatClampNeg 1) 7 2 ((mI (wI h 31 r4.toNatClampNeg 1) 7 2) + 1)) 7 3) ||| l3)) 7 4 ((mI (wI (wI (wI h 31 r4.toNatClampNeg 1) 7 2 ((mI (wI h 31 r4.toNatClampNeg 1) 7 2) + 1)) 7 3 ((mI (wI (wI h 31 r4.toNatClampNeg 1) 7 2 ((mI (wI h 31 r4.toNatClampNeg 1) 7 2) + 1)) 7 3) ||| l3)) 7 4) ||| (l3 ^^^ (-1))))  ok_1531 (R_w fl2 (by decide)) (R_w f_1511 (by decide)) (by omega)
set_option maxRecDepth 100000 in
set_option maxHeartbeats 4000000 in
theorem s_X5_open {g : gT} {h : mh_T} {P : mh_T → Prop}  (hG : GI h)  (hp : ∀ h', OkC h h' → P h') : MCv g yX5_open uX5_open [.ref 7, .ref 2] h P := by
  have ok : OkC h h := OkC_rf hG
  have L0 := s_X5_open_L (g := g) hG hp 770
  refine e_X5_open   ?_
  intro x1 ex1
  have f_1540 : R 0 8 (mI h 2 4) := GI_rd ok.1 2 _ (by decide)
  have f_1539 : R 0 8 (mI (wI h 7 0 (mI h 2 2)) 2 4) := f_1540
  have f_1538 : R 0 8 (mI (wI (wI h 7 0 (mI h 2 2)) 7 1 (mI (wI h 7 0 (mI h 2 2)) 2 4)) 7 1) := f_1539
  have f_1537 : R 0 8 (mI (wI (wI (wI h 7 0 (mI h 2 2)) 7 1 (mI (wI h 7 0 (mI h 2 2)) 2 4)) 7 2 0) 7 1) := f_1538
  have f_1536 : R 0 8 (mI (wI (wI (wI (wI h 7 0 (mI h 2 2)) 7 1 (mI (wI h 7 0 (mI h 2 2)) 2 4)) 7 2 0) 7 3 0) 7 1) := f_1537
  have f_1535 : R 0 8 (mI (wI (wI (wI (wI (wI h 7 0 (mI h 2 2)) 7 1 (mI (wI h 7 0 (mI h 2 2)) 2 4)) 7 2 0) 7 3 0) 7 4 0) 7 1) := f_1536
  have f_1534 : R 1 256 (1 <<< ((mI (wI (wI (wI (wI (wI h 7 0 (mI h 2 2)) 7 1 (mI (wI h 7 0 (mI h 2 2)) 2 4)) 7 2 0) 7 3 0) 7 4 0) 7 1) &&& 31)) := R_shl f_1535 1 256 0 8 (by decide)
  have f_1541 : R 1 1 1 := ⟨by decide, by decide⟩
  have f_1533 : R 0 255 ((1 <<< ((mI (wI (wI (wI (wI (wI h 7 0 (mI h 2 2)) 7 1 (mI (wI h 7 0 (mI h 2 2)) 2 4)) 7 2 0) 7 3 0) 7 4 0) 7 1) &&& 31)) - 1) := R_sub f_1534 f_1541 0 255 (by decide)
  have f_1542 : R 0 255 x1 := rf_eq f_1533 ex1
  have f_1543 : R 0 0 0 := ⟨by decide, by decide⟩
  have f_1544 : R 0 9 (mI h 2 2) := GI_rd ok.1 2 _ (by decide)
  have ok_1545 := OkC_w ok (k := 7) (j := 0) (v := (mI h 2 2)) (lo := 0) (hi := 9) (by decide) f_1544 rfl (by decide)
  have ok_1546 := OkC_w ok_1545 (k := 7) (j := 1) (v := (mI (wI h 7 0 (mI h 2 2)) 2 4)) (lo := 0) (hi := 8) (by decide) f_1539 rfl (by decide)
  have f_1547 : R 0 0 0 := ⟨by decide, by decide⟩
  have ok_1548 := OkC_w ok_1546 (k := 7) (j := 2) (v := 0) (lo := (-2147483648)) (hi := 2147483647) (by decide) (R_w f_1547 (by decide)) rfl (by decide)
  have f_1549 : R 0 0 0 := ⟨by decide, by decide⟩
  have ok_1550 := OkC_w ok_1548 (k := 7) (j := 3) (v := 0) (lo := (-2147483648)) (hi := 2147483647) (by decide) (R_w f_1549 (by decide)) rfl (by decide)
  have f_1551 : R 0 0 0 := ⟨by decide, by decide⟩
  have ok_1552 := OkC_w ok_1550 (k := 7) (j := 4) (v := 0) (lo := (-2147483648)) (hi := 2147483647) (by decide) (R_w f_1551 (by decide)) rfl (by decide)
  have f_1553 : R 0 0 0 := ⟨by decide, by decide⟩
  have g_1554 := gap_le (N := 256) f_1553 (m := 256) (by decide)
  exact (L0.1) x1 0 (wI (wI (wI (wI (wI h 7 0 (mI h 2 2)) 7 1 (mI (wI h 7 0 (mI h 2 2)) 2 4)) 7 2 0) 7 3 0) 7 4 0)  ok_1552 (R_w f_1542 (by decide)) (R_w f_1543 (by decide)) (by omega)
set_option maxRecDepth 100000 in
set_option maxHeartbeats 4000000 in
theorem s_X5_holds {g : gT} {h : mh_T} {P : Int32 → mh_T → Prop} (l1 : Int32) (hG : GI h)  (hp : ∀ r : Int32, R 0 1 r → P r h) : MCi g yX5_holds uX5_holds [.ref 7, .int l1] h P := by
  have ok : OkC h h := OkC_rf hG
  refine e_X5_holds l1  ?_
  refine ⟨fun c_24 => ?_, fun c_24 => ?_⟩
  · have f_25 : R 0 0 0 := ⟨by decide, by decide⟩
    have f_26 : R (-2147483648) (-1) l1 := rf_lt_l (R_full l1) f_25 c_24 (-1) (by decide)
    have f_27 : R 0 0 0 := ⟨by decide, by decide⟩
    exact hp _ (R_w f_27 (by decide))
  · have f_28 : R 0 0 0 := ⟨by decide, by decide⟩
    have f_29 : R 0 2147483647 l1 := rf_le_r f_28 (R_full l1) (nlt c_24) 0 (by decide)
    refine ⟨fun c_30 => ?_, fun c_30 => ?_⟩
    · have f_32 : R 0 8 (mI h 7 1) := GI_rd ok.1 7 _ (by decide)
      have f_31 : R 1 256 (1 <<< ((mI h 7 1) &&& 31)) := R_shl f_32 1 256 0 8 (by decide)
      have f_33 : R 1 2147483647 l1 := rf_le_r f_31 f_29 c_30 1 (by decide)
      have f_34 : R 0 0 0 := ⟨by decide, by decide⟩
      exact hp _ (R_w f_34 (by decide))
    · have f_36 : R 0 8 (mI h 7 1) := GI_rd ok.1 7 _ (by decide)
      have f_35 : R 1 256 (1 <<< ((mI h 7 1) &&& 31)) := R_shl f_36 1 256 0 8 (by decide)
      have f_37 : R 0 255 l1 := rf_lt_l f_29 f_35 (nle c_30) 255 (by decide)
      refine ⟨vin f_37 (by decide), ?_⟩
      refine ⟨fun c_38 => ?_, fun c_38 => ?_⟩
      · have f_39 : R 0 1 (mI h 31 l1.toNatClampNeg) := GI_rd ok.1 31 _ rfl
        have f_40 : R 0 0 0 := ⟨by decide, by decide⟩
        have f_41 : R 0 0 (mI h 31 l1.toNatClampNeg) := rf_eq f_40 c_38
        have f_42 : R 0 0 0 := ⟨by decide, by decide⟩
        exact hp _ (R_w f_42 (by decide))
      · have f_43 : R 0 1 (mI h 31 l1.toNatClampNeg) := GI_rd ok.1 31 _ rfl
        have f_44 : R 0 0 0 := ⟨by decide, by decide⟩
        have f_45 : R 1 1 (mI h 31 l1.toNatClampNeg) := rf_ne_lo f_43 c_38 (by decide) 1 rfl
        have f_46 : R 1 1 1 := ⟨by decide, by decide⟩
        exact hp _ (R_w f_46 (by decide))
set_option maxRecDepth 100000 in
set_option maxHeartbeats 4000000 in
theorem s_X5_valueOf {g : gT} {h : mh_T} {P : Int32 → mh_T → Prop} (l1 : Int32) (hG : GI h)  (hp : ∀ r : Int32, R (-2) 1 r → P r h) : MCi g yX5_valueOf uX5_valueOf [.ref 7, .int l1] h P := by
  have ok : OkC h h := OkC_rf hG
  refine e_X5_valueOf l1  ?_
  refine ⟨fun c_32 => ?_, fun c_32 => ?_⟩
  · have f_34 : R 1 1 1 := ⟨by decide, by decide⟩
    have f_33 : R 0 1 (((mI h 7 3) >>> (l1 &&& 31)) &&& 1) := R_and f_34 (by decide)
    have f_35 : R 0 0 0 := ⟨by decide, by decide⟩
    have f_36 : R 0 0 (((mI h 7 3) >>> (l1 &&& 31)) &&& 1) := rf_eq f_35 c_32
    refine ⟨fun c_37 => ?_, fun c_37 => ?_⟩
    · have f_39 : R 1 1 1 := ⟨by decide, by decide⟩
      have f_38 : R 0 1 (((mI h 7 4) >>> (l1 &&& 31)) &&& 1) := R_and f_39 (by decide)
      have f_40 : R 0 0 0 := ⟨by decide, by decide⟩
      have f_41 : R 0 0 (((mI h 7 4) >>> (l1 &&& 31)) &&& 1) := rf_eq f_40 c_37
      have f_42 : R 0 0 0 := ⟨by decide, by decide⟩
      exact hp _ (R_w f_42 (by decide))
    · have f_44 : R 1 1 1 := ⟨by decide, by decide⟩
      have f_43 : R 0 1 (((mI h 7 4) >>> (l1 &&& 31)) &&& 1) := R_and f_44 (by decide)
      have f_45 : R 0 0 0 := ⟨by decide, by decide⟩
      have f_46 : R 1 1 (((mI h 7 4) >>> (l1 &&& 31)) &&& 1) := rf_ne_lo f_43 c_37 (by decide) 1 rfl
      have f_47 : R 0 0 0 := ⟨by decide, by decide⟩
      exact hp _ (R_w f_47 (by decide))
  · have f_49 : R 1 1 1 := ⟨by decide, by decide⟩
    have f_48 : R 0 1 (((mI h 7 3) >>> (l1 &&& 31)) &&& 1) := R_and f_49 (by decide)
    have f_50 : R 0 0 0 := ⟨by decide, by decide⟩
    have f_51 : R 1 1 (((mI h 7 3) >>> (l1 &&& 31)) &&& 1) := rf_ne_lo f_48 c_32 (by decide) 1 rfl
    refine ⟨fun c_52 => ?_, fun c_52 => ?_⟩
    · have f_54 : R 1 1 1 := ⟨by decide, by decide⟩
      have f_53 : R 0 1 (((mI h 7 4) >>> (l1 &&& 31)) &&& 1) := R_and f_54 (by decide)
      have f_55 : R 0 0 0 := ⟨by decide, by decide⟩
      have f_56 : R 0 0 (((mI h 7 4) >>> (l1 &&& 31)) &&& 1) := rf_eq f_55 c_52
      have f_57 : R 1 1 1 := ⟨by decide, by decide⟩
      exact hp _ (R_w f_57 (by decide))
    · have f_59 : R 1 1 1 := ⟨by decide, by decide⟩
      have f_58 : R 0 1 (((mI h 7 4) >>> (l1 &&& 31)) &&& 1) := R_and f_59 (by decide)
      have f_60 : R 0 0 0 := ⟨by decide, by decide⟩
      have f_61 : R 1 1 (((mI h 7 4) >>> (l1 &&& 31)) &&& 1) := rf_ne_lo f_58 c_52 (by decide) 1 rfl
      have f_62 : R (-2) (-2) (-2) := ⟨by decide, by decide⟩
      exact hp _ (R_w f_62 (by decide))
set_option maxRecDepth 100000 in
set_option maxHeartbeats 4000000 in
theorem s_X5_leastBroken_L {g : gT} {h0 : mh_T} {P : Int32 → mh_T → Prop} (hG0 : GI h0) (hp : ∀ r : Int32, R (-2) 255 r → P r h0) : ∀ n : Nat, (∀ (l1 : Int32) (l2 : Int32), R (-2) 255 l1 → R 0 256 l2 → 1 * gap 256 l2 + 0 < n → ME g uX5_leastBroken 5 [.ref 7, .int l1, .int l2] [] h0 (qI P)) := by
  intro n
  induction n with
  | zero =>
    exact (fun _ _ _ _ hm => absurd hm (Nat.not_lt_zero _))
  | succ n ih =>
    intro l1 l2  fl1 fl2 hm
    have ok : OkC h0 h0 := OkC_rf hG0
    refine r_X5_leastBroken_5 l1 l2  ?_
    refine ⟨fun c_1284 => ?_, fun c_1284 => ?_⟩
    · have f_1286 : R 0 8 (mI h0 7 1) := GI_rd ok.1 7 _ (by decide)
      have f_1285 : R 1 256 (1 <<< ((mI h0 7 1) &&& 31)) := R_shl f_1286 1 256 0 8 (by decide)
      have f_1287 : R 1 256 l2 := rf_le_r f_1285 fl2 c_1284 1 (by decide)
      exact hp _ (R_w fl1 (by decide))
    · have f_1289 : R 0 8 (mI h0 7 1) := GI_rd ok.1 7 _ (by decide)
      have f_1288 : R 1 256 (1 <<< ((mI h0 7 1) &&& 31)) := R_shl f_1289 1 256 0 8 (by decide)
      have f_1290 : R 0 255 l2 := rf_lt_l fl2 f_1288 (nle c_1284) 255 (by decide)
      refine ⟨vin f_1290 (by decide), ?_⟩
      refine ⟨fun c_1291 => ?_, fun c_1291 => ?_⟩
      · have f_1292 : R 0 1 (mI h0 31 l2.toNatClampNeg) := GI_rd ok.1 31 _ rfl
        have f_1293 : R 0 0 0 := ⟨by decide, by decide⟩
        have f_1294 : R 1 1 (mI h0 31 l2.toNatClampNeg) := rf_ne_lo f_1292 c_1291 (by decide) 1 rfl
        have f_1296 : R 1 1 1 := ⟨by decide, by decide⟩
        have f_1295 : R 1 256 (l2 + 1) := R_add f_1290 f_1296 1 256 (by decide)
        have g_1297 := gap_inc (N := 256) f_1290 (by decide)
        exact ih l1 (l2 + 1)  (R_w fl1 (by decide)) (R_w f_1295 (by decide)) (by omega)
      · have f_1298 : R 0 1 (mI h0 31 l2.toNatClampNeg) := GI_rd ok.1 31 _ rfl
        have f_1299 : R 0 0 0 := ⟨by decide, by decide⟩
        have f_1300 : R 0 0 (mI h0 31 l2.toNatClampNeg) := rf_eq f_1299 c_1291
        refine ⟨fun c_1301 => ?_, fun c_1301 => ?_⟩
        · have f_1302 : R 0 0 0 := ⟨by decide, by decide⟩
          have f_1303 : R (-2) (-1) l1 := rf_lt_l fl1 f_1302 c_1301 (-1) (by decide)
          have f_1305 : R 1 1 1 := ⟨by decide, by decide⟩
          have f_1304 : R 1 256 (l2 + 1) := R_add f_1290 f_1305 1 256 (by decide)
          have g_1306 := gap_inc (N := 256) f_1290 (by decide)
          exact ih l2 (l2 + 1)  (R_w f_1290 (by decide)) (R_w f_1304 (by decide)) (by omega)
        · have f_1307 : R 0 0 0 := ⟨by decide, by decide⟩
          have f_1308 : R 0 255 l1 := rf_le_r f_1307 fl1 (nlt c_1301) 0 (by decide)
          refine s_J6_bitCount_0f7a4 l2 ok.1 (fun r6 f_1309 => ?_)
          refine s_J6_bitCount_0f7a4 l1 ok.1 (fun r8 f_1310 => ?_)
          refine ⟨fun c_1311 => ?_, fun c_1311 => ?_⟩
          · have f_1313 : R 1 1 1 := ⟨by decide, by decide⟩
            have f_1312 : R 1 256 (l2 + 1) := R_add f_1290 f_1313 1 256 (by decide)
            have g_1314 := gap_inc (N := 256) f_1290 (by decide)
            exact ih l1 (l2 + 1)  (R_w f_1308 (by decide)) (R_w f_1312 (by decide)) (by omega)
          · have f_1315 : R 0 62 r6 := rf_lt_l f_1309 f_1310 (nle c_1311) 62 (by decide)
            have f_1316 : R 1 63 r8 := rf_lt_r f_1309 f_1310 (nle c_1311) 1 (by decide)
            have f_1318 : R 1 1 1 := ⟨by decide, by decide⟩
            have f_1317 : R 1 256 (l2 + 1) := R_add f_1290 f_1318 1 256 (by decide)
            have g_1319 := gap_inc (N := 256) f_1290 (by decide)
            exact ih l2 (l2 + 1)  (R_w f_1290 (by decide)) (R_w f_1317 (by decide)) (by omega)
set_option maxRecDepth 100000 in
set_option maxHeartbeats 4000000 in
theorem s_X5_leastBroken {g : gT} {h : mh_T} {P : Int32 → mh_T → Prop}  (hG : GI h)  (hp : ∀ r : Int32, R (-2) 255 r → P r h) : MCi g yX5_leastBroken uX5_leastBroken [.ref 7] h P := by
  have ok : OkC h h := OkC_rf hG
  have L0 := s_X5_leastBroken_L (g := g) hG hp 257
  refine e_X5_leastBroken   ?_
  have f_1320 : R (-2) (-2) (-2) := ⟨by decide, by decide⟩
  have f_1321 : R 0 0 0 := ⟨by decide, by decide⟩
  have f_1322 : R 0 0 0 := ⟨by decide, by decide⟩
  have g_1323 := gap_le (N := 256) f_1322 (m := 256) (by decide)
  exact L0 (-2) 0  (R_w f_1320 (by decide)) (R_w f_1321 (by decide)) (by omega)
set_option maxRecDepth 100000 in
set_option maxHeartbeats 4000000 in
theorem s_X5_mostHeld_L {g : gT} {h0 : mh_T} {P : Int32 → mh_T → Prop} (hG0 : GI h0) (hp : ∀ r : Int32, R 0 63 r → P r h0) : ∀ n : Nat, (∀ (l1 : Int32) (l2 : Int32), R 0 63 l1 → R 0 256 l2 → 1 * gap 256 l2 + 0 < n → ME g uX5_mostHeld 4 [.ref 7, .int l1, .int l2] [] h0 (qI P)) := by
  intro n
  induction n with
  | zero =>
    exact (fun _ _ _ _ hm => absurd hm (Nat.not_lt_zero _))
  | succ n ih =>
    intro l1 l2  fl1 fl2 hm
    have ok : OkC h0 h0 := OkC_rf hG0
    refine r_X5_mostHeld_4 l1 l2  ?_
    refine ⟨fun c_876 => ?_, fun c_876 => ?_⟩
    · have f_878 : R 0 8 (mI h0 7 1) := GI_rd ok.1 7 _ (by decide)
      have f_877 : R 1 256 (1 <<< ((mI h0 7 1) &&& 31)) := R_shl f_878 1 256 0 8 (by decide)
      have f_879 : R 1 256 l2 := rf_le_r f_877 fl2 c_876 1 (by decide)
      exact hp _ (R_w fl1 (by decide))
    · have f_881 : R 0 8 (mI h0 7 1) := GI_rd ok.1 7 _ (by decide)
      have f_880 : R 1 256 (1 <<< ((mI h0 7 1) &&& 31)) := R_shl f_881 1 256 0 8 (by decide)
      have f_882 : R 0 255 l2 := rf_lt_l fl2 f_880 (nle c_876) 255 (by decide)
      refine ⟨vin f_882 (by decide), ?_⟩
      refine ⟨fun c_883 => ?_, fun c_883 => ?_⟩
      · have f_884 : R 0 1 (mI h0 31 l2.toNatClampNeg) := GI_rd ok.1 31 _ rfl
        have f_885 : R 0 0 0 := ⟨by decide, by decide⟩
        have f_886 : R 0 0 (mI h0 31 l2.toNatClampNeg) := rf_eq f_885 c_883
        have f_888 : R 1 1 1 := ⟨by decide, by decide⟩
        have f_887 : R 1 256 (l2 + 1) := R_add f_882 f_888 1 256 (by decide)
        have g_889 := gap_inc (N := 256) f_882 (by decide)
        exact ih l1 (l2 + 1)  (R_w fl1 (by decide)) (R_w f_887 (by decide)) (by omega)
      · have f_890 : R 0 1 (mI h0 31 l2.toNatClampNeg) := GI_rd ok.1 31 _ rfl
        have f_891 : R 0 0 0 := ⟨by decide, by decide⟩
        have f_892 : R 1 1 (mI h0 31 l2.toNatClampNeg) := rf_ne_lo f_890 c_883 (by decide) 1 rfl
        refine s_J6_bitCount_0f7a4 l2 ok.1 (fun r5 f_893 => ?_)
        intro x6 ex6
        have f_894 : R 0 63 (if l1 < r5 then r5 else l1) := R_ite (R_w f_893 (by decide)) (R_w fl1 (by decide))
        have f_895 : R 0 63 x6 := rf_eq f_894 ex6
        have f_897 : R 1 1 1 := ⟨by decide, by decide⟩
        have f_896 : R 1 256 (l2 + 1) := R_add f_882 f_897 1 256 (by decide)
        have g_898 := gap_inc (N := 256) f_882 (by decide)
        exact ih x6 (l2 + 1)  (R_w f_895 (by decide)) (R_w f_896 (by decide)) (by omega)
set_option maxRecDepth 100000 in
set_option maxHeartbeats 4000000 in
theorem s_X5_mostHeld {g : gT} {h : mh_T} {P : Int32 → mh_T → Prop}  (hG : GI h)  (hp : ∀ r : Int32, R 0 63 r → P r h) : MCi g yX5_mostHeld uX5_mostHeld [.ref 7] h P := by
  have ok : OkC h h := OkC_rf hG
  have L0 := s_X5_mostHeld_L (g := g) hG hp 257
  refine e_X5_mostHeld   ?_
  have f_899 : R 0 0 0 := ⟨by decide, by decide⟩
  have f_900 : R 0 0 0 := ⟨by decide, by decide⟩
  have f_901 : R 0 0 0 := ⟨by decide, by decide⟩
  have g_902 := gap_le (N := 256) f_901 (m := 256) (by decide)
  exact L0 0 0  (R_w f_899 (by decide)) (R_w f_900 (by decide)) (by omega)
set_option maxRecDepth 100000 in
set_option maxHeartbeats 4000000 in
theorem s_X6_isLetter {g : gT} {h : mh_T} {P : Int32 → mh_T → Prop} (l0 : Int32) (hG : GI h)  (hp : ∀ r : Int32, R 0 1 r → P r h) : MCi g yX6_isLetter uX6_isLetter [.int l0] h P := by
  have ok : OkC h h := OkC_rf hG
  refine e_X6_isLetter l0  ?_
  refine ⟨fun c_14 => ?_, fun c_14 => ?_⟩
  · have f_15 : R 97 97 97 := ⟨by decide, by decide⟩
    have f_16 : R (-2147483648) 96 l0 := rf_lt_l (R_full l0) f_15 c_14 96 (by decide)
    have f_17 : R 0 0 0 := ⟨by decide, by decide⟩
    exact hp _ (R_w f_17 (by decide))
  · have f_18 : R 97 97 97 := ⟨by decide, by decide⟩
    have f_19 : R 97 2147483647 l0 := rf_le_r f_18 (R_full l0) (nlt c_14) 97 (by decide)
    refine ⟨fun c_20 => ?_, fun c_20 => ?_⟩
    · have f_21 : R 122 122 122 := ⟨by decide, by decide⟩
      have f_22 : R 123 2147483647 l0 := rf_lt_r f_21 f_19 c_20 123 (by decide)
      have f_23 : R 0 0 0 := ⟨by decide, by decide⟩
      exact hp _ (R_w f_23 (by decide))
    · have f_24 : R 122 122 122 := ⟨by decide, by decide⟩
      have f_25 : R 97 122 l0 := rf_le_l f_19 f_24 (nlt c_20) 122 (by decide)
      have f_26 : R 1 1 1 := ⟨by decide, by decide⟩
      exact hp _ (R_w f_26 (by decide))
set_option maxRecDepth 100000 in
set_option maxHeartbeats 4000000 in
theorem s_X6_isDigit {g : gT} {h : mh_T} {P : Int32 → mh_T → Prop} (l0 : Int32) (hG : GI h)  (hp : ∀ r : Int32, R 0 1 r → P r h) : MCi g yX6_isDigit uX6_isDigit [.int l0] h P := by
  have ok : OkC h h := OkC_rf hG
  refine e_X6_isDigit l0  ?_
  refine ⟨fun c_14 => ?_, fun c_14 => ?_⟩
  · have f_15 : R 48 48 48 := ⟨by decide, by decide⟩
    have f_16 : R (-2147483648) 47 l0 := rf_lt_l (R_full l0) f_15 c_14 47 (by decide)
    have f_17 : R 0 0 0 := ⟨by decide, by decide⟩
    exact hp _ (R_w f_17 (by decide))
  · have f_18 : R 48 48 48 := ⟨by decide, by decide⟩
    have f_19 : R 48 2147483647 l0 := rf_le_r f_18 (R_full l0) (nlt c_14) 48 (by decide)
    refine ⟨fun c_20 => ?_, fun c_20 => ?_⟩
    · have f_21 : R 57 57 57 := ⟨by decide, by decide⟩
      have f_22 : R 58 2147483647 l0 := rf_lt_r f_21 f_19 c_20 58 (by decide)
      have f_23 : R 0 0 0 := ⟨by decide, by decide⟩
      exact hp _ (R_w f_23 (by decide))
    · have f_24 : R 57 57 57 := ⟨by decide, by decide⟩
      have f_25 : R 48 57 l0 := rf_le_l f_19 f_24 (nlt c_20) 57 (by decide)
      have f_26 : R 1 1 1 := ⟨by decide, by decide⟩
      exact hp _ (R_w f_26 (by decide))
set_option maxRecDepth 100000 in
set_option maxHeartbeats 4000000 in
theorem s_X6_takeSign {g : gT} {h : mh_T} {P : mh_T → Prop}  (hG : GI h)  (hp : ∀ h', OkC h h' → P h') : MCv g yX6_takeSign uX6_takeSign [.ref 1] h P := by
  have ok : OkC h h := OkC_rf hG
  refine e_X6_takeSign   ?_
  refine ⟨fun c_58 => ?_, fun c_58 => ?_⟩
  · have f_60 : R 0 900 (mI h 1 7) := GI_rd ok.1 1 _ (by decide)
    have f_59 : R 0 900 (mI (wI h 1 8 0) 1 7) := f_60
    have f_62 : R 0 900 (mI h 1 6) := GI_rd ok.1 1 _ (by decide)
    have f_61 : R 0 900 (mI (wI h 1 8 0) 1 6) := f_62
    have f_63 : R 0 0 0 := ⟨by decide, by decide⟩
    have ok_64 := OkC_w ok (k := 1) (j := 8) (v := 0) (lo := (-2147483648)) (hi := 2147483647) (by decide) (R_w f_63 (by decide)) rfl (by decide)
    exact hp _ ok_64
  · have f_66 : R 0 900 (mI h 1 7) := GI_rd ok.1 1 _ (by decide)
    have f_65 : R 0 900 (mI (wI h 1 8 0) 1 7) := f_66
    have f_68 : R 0 900 (mI h 1 6) := GI_rd ok.1 1 _ (by decide)
    have f_67 : R 0 900 (mI (wI h 1 8 0) 1 6) := f_68
    have f_69 : R 0 899 (mI (wI h 1 8 0) 1 7) := rf_lt_l f_65 f_67 (nle c_58) 899 (by decide)
    have f_70 : R 1 900 (mI (wI h 1 8 0) 1 6) := rf_lt_r f_65 f_67 (nle c_58) 1 (by decide)
    refine ⟨vin f_69 (by decide), ?_⟩
    intro x3 ex3
    have f_72 : R (-2147483648) 2147483647 (mI h 12 (mI (wI h 1 8 0) 1 7).toNatClampNeg) := R_full _
    have f_71 : R (-2147483648) 2147483647 (mI (wI h 1 8 0) 12 (mI (wI h 1 8 0) 1 7).toNatClampNeg) := (rd_ne f_72 (by decide))
    have f_73 : R (-2147483648) 2147483647 x3 := rf_eq f_71 ex3
    refine ⟨fun c_74 => ?_, fun c_74 => ?_⟩
    · have f_75 : R 59 59 59 := ⟨by decide, by decide⟩
      have f_76 : R 59 59 x3 := rf_eq f_75 c_74
      have f_77 : R 0 0 0 := ⟨by decide, by decide⟩
      have ok_78 := OkC_w ok (k := 1) (j := 8) (v := 0) (lo := (-2147483648)) (hi := 2147483647) (by decide) (R_w f_77 (by decide)) rfl (by decide)
      have ok_79 := OkC_w ok_78 (k := 1) (j := 8) (v := x3) (lo := (-2147483648)) (hi := 2147483647) (by decide) (R_w f_76 (by decide)) rfl (by decide)
      have f_81 : R 0 899 (mI (wI (wI h 1 8 0) 1 8 x3) 1 7) := f_69
      have f_82 : R 1 1 1 := ⟨by decide, by decide⟩
      have f_80 : R 1 900 ((mI (wI (wI h 1 8 0) 1 8 x3) 1 7) + 1) := R_add f_81 f_82 1 900 (by decide)
      have ok_83 := OkC_w ok_79 (k := 1) (j := 7) (v := ((mI (wI (wI h 1 8 0) 1 8 x3) 1 7) + 1)) (lo := 0) (hi := 900) (by decide) (R_w f_80 (by decide)) rfl (by decide)
      exact hp _ ok_83
    · have f_84 : R 59 59 59 := ⟨by decide, by decide⟩
      refine ⟨fun c_85 => ?_, fun c_85 => ?_⟩
      · have f_86 : R 44 44 44 := ⟨by decide, by decide⟩
        have f_87 : R 44 44 x3 := rf_eq f_86 c_85
        have f_88 : R 0 0 0 := ⟨by decide, by decide⟩
        have ok_89 := OkC_w ok (k := 1) (j := 8) (v := 0) (lo := (-2147483648)) (hi := 2147483647) (by decide) (R_w f_88 (by decide)) rfl (by decide)
        have ok_90 := OkC_w ok_89 (k := 1) (j := 8) (v := x3) (lo := (-2147483648)) (hi := 2147483647) (by decide) (R_w f_87 (by decide)) rfl (by decide)
        have f_92 : R 0 899 (mI (wI (wI h 1 8 0) 1 8 x3) 1 7) := f_69
        have f_93 : R 1 1 1 := ⟨by decide, by decide⟩
        have f_91 : R 1 900 ((mI (wI (wI h 1 8 0) 1 8 x3) 1 7) + 1) := R_add f_92 f_93 1 900 (by decide)
        have ok_94 := OkC_w ok_90 (k := 1) (j := 7) (v := ((mI (wI (wI h 1 8 0) 1 8 x3) 1 7) + 1)) (lo := 0) (hi := 900) (by decide) (R_w f_91 (by decide)) rfl (by decide)
        exact hp _ ok_94
      · have f_95 : R 44 44 44 := ⟨by decide, by decide⟩
        refine ⟨fun c_96 => ?_, fun c_96 => ?_⟩
        · have f_97 : R 45 45 45 := ⟨by decide, by decide⟩
          have f_98 : R 0 0 0 := ⟨by decide, by decide⟩
          have ok_99 := OkC_w ok (k := 1) (j := 8) (v := 0) (lo := (-2147483648)) (hi := 2147483647) (by decide) (R_w f_98 (by decide)) rfl (by decide)
          have f_100 : R 1 1 1 := ⟨by decide, by decide⟩
          have ok_101 := OkC_w ok_99 (k := 1) (j := 8) (v := 1) (lo := (-2147483648)) (hi := 2147483647) (by decide) (R_w f_100 (by decide)) rfl (by decide)
          have f_103 : R 0 899 (mI (wI (wI h 1 8 0) 1 8 1) 1 7) := f_69
          have f_104 : R 1 1 1 := ⟨by decide, by decide⟩
          have f_102 : R 1 900 ((mI (wI (wI h 1 8 0) 1 8 1) 1 7) + 1) := R_add f_103 f_104 1 900 (by decide)
          have ok_105 := OkC_w ok_101 (k := 1) (j := 7) (v := ((mI (wI (wI h 1 8 0) 1 8 1) 1 7) + 1)) (lo := 0) (hi := 900) (by decide) (R_w f_102 (by decide)) rfl (by decide)
          exact hp _ ok_105
        · have f_106 : R 45 45 45 := ⟨by decide, by decide⟩
          have f_107 : R 45 45 x3 := rf_eq f_106 c_96
          have f_108 : R 0 0 0 := ⟨by decide, by decide⟩
          have ok_109 := OkC_w ok (k := 1) (j := 8) (v := 0) (lo := (-2147483648)) (hi := 2147483647) (by decide) (R_w f_108 (by decide)) rfl (by decide)
          have ok_110 := OkC_w ok_109 (k := 1) (j := 8) (v := x3) (lo := (-2147483648)) (hi := 2147483647) (by decide) (R_w f_107 (by decide)) rfl (by decide)
          have f_112 : R 0 899 (mI (wI (wI h 1 8 0) 1 8 x3) 1 7) := f_69
          have f_113 : R 1 1 1 := ⟨by decide, by decide⟩
          have f_111 : R 1 900 ((mI (wI (wI h 1 8 0) 1 8 x3) 1 7) + 1) := R_add f_112 f_113 1 900 (by decide)
          have ok_114 := OkC_w ok_110 (k := 1) (j := 7) (v := ((mI (wI (wI h 1 8 0) 1 8 x3) 1 7) + 1)) (lo := 0) (hi := 900) (by decide) (R_w f_111 (by decide)) rfl (by decide)
          exact hp _ ok_114
set_option maxRecDepth 100000 in
set_option maxHeartbeats 4000000 in
theorem s_X6_refuse {g : gT} {h : mh_T} {P : Int32 → mh_T → Prop} (l1 : Int32) (hG : GI h)  (hp : ∀ (r : Int32) h', OkC h h' → R 0 1 r → P r h') : MCi g yX6_refuse uX6_refuse [.ref 1, .int l1] h P := by
  have ok : OkC h h := OkC_rf hG
  refine e_X6_refuse l1  ?_
  have ok_6 := OkC_w ok (k := 1) (j := 1) (v := l1) (lo := (-2147483648)) (hi := 2147483647) (by decide) (R_full l1) rfl (by decide)
  have f_8 : R 0 900 (mI h 1 9) := GI_rd ok.1 1 _ (by decide)
  have f_7 : R 0 900 (mI (wI h 1 1 l1) 1 9) := f_8
  have ok_9 := OkC_w ok_6 (k := 1) (j := 2) (v := (mI (wI h 1 1 l1) 1 9)) (lo := (-2147483648)) (hi := 2147483647) (by decide) (R_w f_7 (by decide)) rfl (by decide)
  have f_10 : R 0 0 0 := ⟨by decide, by decide⟩
  exact hp _ _ ok_9 (R_w f_10 (by decide))
set_option maxRecDepth 100000 in
set_option maxHeartbeats 4000000 in
theorem s_X6_needWhole {g : gT} {h : mh_T} {P : Int32 → mh_T → Prop} (l1 : Int32) (l2 : Int32) (hG : GI h)  (hp : ∀ (r : Int32) h', OkC h h' → R 0 1 r → P r h') : MCi g yX6_needWhole uX6_needWhole [.ref 1, .int l1, .int l2] h P := by
  have ok : OkC h h := OkC_rf hG
  refine e_X6_needWhole l1 l2  ?_
  refine ⟨fun c_39 => ?_, fun c_39 => ?_⟩
  · have f_40 : R (-2147483648) 2147483647 (mI h 1 8) := R_full _
    have f_41 : R 3 3 3 := ⟨by decide, by decide⟩
    have f_42 : R 3 3 (mI h 1 8) := rf_eq f_41 c_39
    refine ⟨fun c_43 => ?_, fun c_43 => ?_⟩
    · have f_44 : R (-2147483648) 2147483647 (mI h 1 11) := R_full _
      have f_45 : R (-2147483648) 2147483646 (mI h 1 11) := rf_lt_l f_44 (R_full l1) c_43 2147483646 (by decide)
      have f_46 : R (-2147483647) 2147483647 l1 := rf_lt_r f_44 (R_full l1) c_43 (-2147483647) (by decide)
      refine s_X6_refuse 4 ok.1 (fun r4 h3 ko_47 f_49 => ?_)
      have ok_48 := OkC_tr ok ko_47
      refine ⟨fun c_50 => ?_, fun c_50 => ?_⟩
      · have f_51 : R 0 0 0 := ⟨by decide, by decide⟩
        have f_52 : R 0 0 r4 := rf_eq f_51 c_50
        have f_53 : R 0 0 0 := ⟨by decide, by decide⟩
        exact hp _ _ ok_48 (R_w f_53 (by decide))
      · have f_54 : R 0 0 0 := ⟨by decide, by decide⟩
        have f_55 : R 1 1 r4 := rf_ne_lo f_49 c_50 (by decide) 1 rfl
        have f_56 : R 1 1 1 := ⟨by decide, by decide⟩
        exact hp _ _ ok_48 (R_w f_56 (by decide))
    · have f_57 : R (-2147483648) 2147483647 (mI h 1 11) := R_full _
      refine ⟨fun c_58 => ?_, fun c_58 => ?_⟩
      · have f_59 : R 1 1 1 := ⟨by decide, by decide⟩
        exact hp _ _ ok (R_w f_59 (by decide))
      · have f_60 : R (-2147483648) 2147483646 l2 := rf_lt_l (R_full l2) f_57 (nle c_58) 2147483646 (by decide)
        have f_61 : R (-2147483647) 2147483647 (mI h 1 11) := rf_lt_r (R_full l2) f_57 (nle c_58) (-2147483647) (by decide)
        refine s_X6_refuse 4 ok.1 (fun r8 h7 ko_62 f_64 => ?_)
        have ok_63 := OkC_tr ok ko_62
        refine ⟨fun c_65 => ?_, fun c_65 => ?_⟩
        · have f_66 : R 0 0 0 := ⟨by decide, by decide⟩
          have f_67 : R 0 0 r8 := rf_eq f_66 c_65
          have f_68 : R 0 0 0 := ⟨by decide, by decide⟩
          exact hp _ _ ok_63 (R_w f_68 (by decide))
        · have f_69 : R 0 0 0 := ⟨by decide, by decide⟩
          have f_70 : R 1 1 r8 := rf_ne_lo f_64 c_65 (by decide) 1 rfl
          have f_71 : R 1 1 1 := ⟨by decide, by decide⟩
          exact hp _ _ ok_63 (R_w f_71 (by decide))
  · have f_72 : R (-2147483648) 2147483647 (mI h 1 8) := R_full _
    have f_73 : R 3 3 3 := ⟨by decide, by decide⟩
    refine s_X6_refuse 1 ok.1 (fun r11 h10 ko_74 f_76 => ?_)
    have ok_75 := OkC_tr ok ko_74
    exact ⟨R_z (R_w f_76 (by decide)), hp _ _ ok_75 (R_w f_76 (by decide))⟩
set_option maxRecDepth 100000 in
set_option maxHeartbeats 4000000 in
theorem s_X8_hasSet {g : gT} {h : mh_T} {P : Int32 → mh_T → Prop} (l1 : Int32) (hG : GI h)  (hp : ∀ r : Int32, R 0 1 r → (¬ r = 0 → R 0 7 l1) → P r h) : MCi g yX8_hasSet uX8_hasSet [.ref 3, .int l1] h P := by
  have ok : OkC h h := OkC_rf hG
  refine e_X8_hasSet l1  ?_
  refine ⟨fun c_14 => ?_, fun c_14 => ?_⟩
  · have f_15 : R 0 0 0 := ⟨by decide, by decide⟩
    have f_16 : R (-2147483648) (-1) l1 := rf_lt_l (R_full l1) f_15 c_14 (-1) (by decide)
    have f_17 : R 0 0 0 := ⟨by decide, by decide⟩
    exact hp _ (R_w f_17 (by decide)) (fun z => absurd rfl z)
  · have f_18 : R 0 0 0 := ⟨by decide, by decide⟩
    have f_19 : R 0 2147483647 l1 := rf_le_r f_18 (R_full l1) (nlt c_14) 0 (by decide)
    refine ⟨fun c_20 => ?_, fun c_20 => ?_⟩
    · have f_21 : R 0 8 (mI h 3 2) := GI_rd ok.1 3 _ (by decide)
      have f_22 : R 0 0 0 := ⟨by decide, by decide⟩
      exact hp _ (R_w f_22 (by decide)) (fun z => absurd rfl z)
    · have f_23 : R 0 8 (mI h 3 2) := GI_rd ok.1 3 _ (by decide)
      have f_24 : R 0 7 l1 := rf_lt_l f_19 f_23 (nle c_20) 7 (by decide)
      have f_25 : R 1 8 (mI h 3 2) := rf_lt_r f_19 f_23 (nle c_20) 1 (by decide)
      have f_26 : R 1 1 1 := ⟨by decide, by decide⟩
      exact hp _ (R_w f_26 (by decide)) (fun _ => R_w f_24 (by decide))
set_option maxRecDepth 100000 in
set_option maxHeartbeats 4000000 in
theorem s_X8_hasPair {g : gT} {h : mh_T} {P : Int32 → mh_T → Prop} (l1 : Int32) (hG : GI h)  (hp : ∀ r : Int32, R 0 1 r → (¬ r = 0 → R 0 7 l1) → P r h) : MCi g yX8_hasPair uX8_hasPair [.ref 3, .int l1] h P := by
  have ok : OkC h h := OkC_rf hG
  refine e_X8_hasPair l1  ?_
  refine s_X8_hasSet l1 ok.1 (fun r2 f_20 im_19 => ?_)
  refine ⟨fun c_21 => ?_, fun c_21 => ?_⟩
  · have f_22 : R 0 0 0 := ⟨by decide, by decide⟩
    have f_23 : R 0 0 r2 := rf_eq f_22 c_21
    have f_24 : R 0 0 0 := ⟨by decide, by decide⟩
    exact hp _ (R_w f_24 (by decide)) (fun z => absurd rfl z)
  · have f_25 : R 0 0 0 := ⟨by decide, by decide⟩
    have f_26 := (im_19 c_21)
    have f_27 : R 1 1 r2 := rf_ne_lo f_20 c_21 (by decide) 1 rfl
    refine ⟨vin f_26 (by decide), ?_⟩
    refine ⟨fun c_28 => ?_, fun c_28 => ?_⟩
    · have f_29 : R (-2) 5 (mI h 25 l1.toNatClampNeg) := GI_rd ok.1 25 _ rfl
      have f_30 : R 0 0 0 := ⟨by decide, by decide⟩
      have f_31 : R (-2) (-1) (mI h 25 l1.toNatClampNeg) := rf_lt_l f_29 f_30 c_28 (-1) (by decide)
      have f_32 : R 0 0 0 := ⟨by decide, by decide⟩
      exact hp _ (R_w f_32 (by decide)) (fun z => absurd rfl z)
    · have f_33 : R (-2) 5 (mI h 25 l1.toNatClampNeg) := GI_rd ok.1 25 _ rfl
      have f_34 : R 0 0 0 := ⟨by decide, by decide⟩
      have f_35 : R 0 5 (mI h 25 l1.toNatClampNeg) := rf_le_r f_34 f_33 (nlt c_28) 0 (by decide)
      have f_36 : R 1 1 1 := ⟨by decide, by decide⟩
      exact hp _ (R_w f_36 (by decide)) (fun _ => R_w f_26 (by decide))
set_option maxRecDepth 100000 in
set_option maxHeartbeats 4000000 in
theorem s_X7_looksOf {g : gT} {h : mh_T} {P : Int32 → mh_T → Prop} (l1 : Int32) (hG : GI h) (fl1 : R 0 7 l1) (hp : ∀ r : Int32, P r h) : MCi g yX7_looksOf uX7_looksOf [.ref 4, .int l1] h P := by
  have ok : OkC h h := OkC_rf hG
  refine e_X7_looksOf l1  ?_
  refine ⟨vin fl1 (by decide), ?_⟩
  refine ⟨vin fl1 (by decide), ?_⟩
  have f_8 : R 0 5 (mI h 24 l1.toNatClampNeg) := GI_rd ok.1 24 _ rfl
  have f_7 : R 1 32 (1 <<< ((mI h 24 l1.toNatClampNeg) &&& 31)) := R_shl f_8 1 32 0 5 (by decide)
  have f_10 : R (-2) 5 (mI h 25 l1.toNatClampNeg) := GI_rd ok.1 25 _ rfl
  have f_9 : R (-2147483648) 2147483647 (1 <<< ((mI h 25 l1.toNatClampNeg) &&& 31)) := R_full _
  have f_6 : R (-2147483648) 2147483647 ((1 <<< ((mI h 24 l1.toNatClampNeg) &&& 31)) ||| (1 <<< ((mI h 25 l1.toNatClampNeg) &&& 31))) := R_full _
  exact hp _ 
set_option maxRecDepth 100000 in
set_option maxHeartbeats 4000000 in
theorem s_X7_hangsTogether_L {g : gT} {h0 : mh_T} {P : Int32 → mh_T → Prop} (hG0 : GI h0) (hp : ∀ r : Int32, R 0 1 r → P r h0) : ∀ n : Nat, (∀ (l1 : Int32) (l2 : Int32) (l3 : Int32) (l4 : Int32), R (-2147483648) 2147483647 l1 → R (-2147483648) 2147483647 l2 → R (-2147483648) 2147483647 l3 → R 0 8 l4 → 10 * gap 8 l4 + 9 < n → ME g uX7_hangsTogether 8 [.ref 4, .int l1, .int l2, .int l3, .int l4, .retAddr 0] [] h0 (qI P)) ∧ (∀ (l1 : Int32) (l2 : Int32) (l3 : Int32) (l4 : Int32) (l5 : Int32), R (-2147483648) 2147483647 l1 → R (-2147483648) 2147483647 l2 → R (-2147483648) 2147483647 l3 → R 0 7 l4 → R 0 8 l5 → 1 * gap 8 l5 + 10 * gap 8 l4 + 0 < n → ME g uX7_hangsTogether 18 [.ref 4, .int l1, .int l2, .int l3, .int l4, .int l5] [] h0 (qI P)) := by
  intro n
  induction n with
  | zero =>
    exact ⟨(fun _ _ _ _ _ _ _ _ hm => absurd hm (Nat.not_lt_zero _)), (fun _ _ _ _ _ _ _ _ _ _ hm => absurd hm (Nat.not_lt_zero _))⟩
  | succ n ih =>
    refine ⟨?_, ?_⟩
    · intro l1 l2 l3 l4  fl1 fl2 fl3 fl4 hm
      have ok : OkC h0 h0 := OkC_rf hG0
      refine r_X7_hangsTogether_8 l1 l2 l3 l4  ?_
      refine ⟨fun c_690 => ?_, fun c_690 => ?_⟩
      · have f_691 : R 8 8 8 := ⟨by decide, by decide⟩
        have f_692 : R 8 8 l4 := rf_le_r f_691 fl4 c_690 8 (by decide)
        refine ⟨fun c_693 => ?_, fun c_693 => ?_⟩
        · have f_694 : R 0 0 0 := ⟨by decide, by decide⟩
          exact hp _ (R_w f_694 (by decide))
        · have f_695 : R 1 1 1 := ⟨by decide, by decide⟩
          exact hp _ (R_w f_695 (by decide))
      · have f_696 : R 8 8 8 := ⟨by decide, by decide⟩
        have f_697 : R 0 7 l4 := rf_lt_l fl4 f_696 (nle c_690) 7 (by decide)
        have f_698 : R 0 0 0 := ⟨by decide, by decide⟩
        have f_699 : R 0 0 0 := ⟨by decide, by decide⟩
        have g_700 := gap_le (N := 8) f_699 (m := 8) (by decide)
        exact (ih.2) l1 l2 l3 l4 0  (R_w fl1 (by decide)) (R_w fl2 (by decide)) (R_w fl3 (by decide)) (R_w f_697 (by decide)) (R_w f_698 (by decide)) (by omega)
    · intro l1 l2 l3 l4 l5  fl1 fl2 fl3 fl4 fl5 hm
      have ok : OkC h0 h0 := OkC_rf hG0
      refine r_X7_hangsTogether_18 l1 l2 l3 l4 l5  ?_
      refine ⟨fun c_701 => ?_, fun c_701 => ?_⟩
      · have f_702 : R 0 8 (mI h0 3 2) := GI_rd ok.1 3 _ (by decide)
        have f_704 : R 1 1 1 := ⟨by decide, by decide⟩
        have f_703 : R 1 8 (l4 + 1) := R_add fl4 f_704 1 8 (by decide)
        have g_705 := gap_inc (N := 8) fl4 (by decide)
        exact (ih.1) l1 l2 l3 (l4 + 1)  (R_w fl1 (by decide)) (R_w fl2 (by decide)) (R_w fl3 (by decide)) (R_w f_703 (by decide)) (by omega)
      · have f_706 : R 0 8 (mI h0 3 2) := GI_rd ok.1 3 _ (by decide)
        have f_707 : R 0 7 l5 := rf_lt_l fl5 f_706 (nle c_701) 7 (by decide)
        have f_708 : R 1 8 (mI h0 3 2) := rf_lt_r fl5 f_706 (nle c_701) 1 (by decide)
        refine ⟨fun c_709 => ?_, fun c_709 => ?_⟩
        · have f_711 : R 1 1 1 := ⟨by decide, by decide⟩
          have f_710 : R 0 1 ((l1 >>> (l5 &&& 31)) &&& 1) := R_and f_711 (by decide)
          have f_712 : R 0 0 0 := ⟨by decide, by decide⟩
          have f_713 : R 0 0 ((l1 >>> (l5 &&& 31)) &&& 1) := rf_eq f_712 c_709
          have f_715 : R 1 1 1 := ⟨by decide, by decide⟩
          have f_714 : R 1 8 (l5 + 1) := R_add f_707 f_715 1 8 (by decide)
          have g_716 := gap_inc (N := 8) f_707 (by decide)
          exact (ih.2) l1 l2 l3 l4 (l5 + 1)  (R_w fl1 (by decide)) (R_w fl2 (by decide)) (R_w fl3 (by decide)) (R_w fl4 (by decide)) (R_w f_714 (by decide)) (by omega)
        · have f_718 : R 1 1 1 := ⟨by decide, by decide⟩
          have f_717 : R 0 1 ((l1 >>> (l5 &&& 31)) &&& 1) := R_and f_718 (by decide)
          have f_719 : R 0 0 0 := ⟨by decide, by decide⟩
          have f_720 : R 1 1 ((l1 >>> (l5 &&& 31)) &&& 1) := rf_ne_lo f_717 c_709 (by decide) 1 rfl
          refine s_X7_looksOf l5 ok.1 (R_w f_707 (by decide)) (fun r4 => ?_)
          refine ⟨fun c_721 => ?_, fun c_721 => ?_⟩
          · have f_723 : R (-2147483648) 2147483647 r4 := R_full _
            have f_722 : R (-2147483648) 2147483647 (r4 &&& l3) := R_full _
            have f_724 : R 0 0 0 := ⟨by decide, by decide⟩
            have f_725 : R 0 0 (r4 &&& l3) := rf_eq f_724 c_721
            have f_727 : R 1 1 1 := ⟨by decide, by decide⟩
            have f_726 : R 1 8 (l5 + 1) := R_add f_707 f_727 1 8 (by decide)
            have g_728 := gap_inc (N := 8) f_707 (by decide)
            exact (ih.2) l1 l2 l3 l4 (l5 + 1)  (R_w fl1 (by decide)) (R_w fl2 (by decide)) (R_w fl3 (by decide)) (R_w fl4 (by decide)) (R_w f_726 (by decide)) (by omega)
          · have f_730 : R (-2147483648) 2147483647 r4 := R_full _
            have f_729 : R (-2147483648) 2147483647 (r4 &&& l3) := R_full _
            have f_731 : R 0 0 0 := ⟨by decide, by decide⟩
            refine s_X7_looksOf l5 ok.1 (R_w f_707 (by decide)) (fun r7 => ?_)
            intro x8 ex8
            have f_733 : R (-2147483648) 2147483647 r7 := R_full _
            have f_732 : R (-2147483648) 2147483647 (l3 ||| r7) := R_full _
            have f_734 : R (-2147483648) 2147483647 x8 := rf_eq f_732 ex8
            have f_736 : R 1 1 1 := ⟨by decide, by decide⟩
            have f_735 : R 1 8 (l5 + 1) := R_add f_707 f_736 1 8 (by decide)
            have g_737 := gap_inc (N := 8) f_707 (by decide)
            exact (ih.2) l1 l2 x8 l4 (l5 + 1)  (R_w fl1 (by decide)) (R_w fl2 (by decide)) (R_w f_734 (by decide)) (R_w fl4 (by decide)) (R_w f_735 (by decide)) (by omega)
set_option maxRecDepth 100000 in
set_option maxHeartbeats 4000000 in
theorem s_X7_hangsTogether {g : gT} {h : mh_T} {P : Int32 → mh_T → Prop} (l1 : Int32) (l2 : Int32) (hG : GI h)  (hp : ∀ r : Int32, R 0 1 r → P r h) : MCi g yX7_hangsTogether uX7_hangsTogether [.ref 4, .int l1, .int l2] h P := by
  have ok : OkC h h := OkC_rf hG
  have L0 := s_X7_hangsTogether_L (g := g) hG hp 90
  refine e_X7_hangsTogether l1 l2  ?_
  intro x1 ex1
  have f_739 : R (-2147483648) 2147483647 (-l2) := R_full _
  have f_738 : R (-2147483648) 2147483647 (l2 &&& (-l2)) := R_full _
  have f_740 : R (-2147483648) 2147483647 x1 := rf_eq f_738 ex1
  have f_741 : R 0 0 0 := ⟨by decide, by decide⟩
  have f_742 : R 0 0 0 := ⟨by decide, by decide⟩
  have g_743 := gap_le (N := 8) f_742 (m := 8) (by decide)
  exact (L0.1) l1 l2 x1 0  (R_w (R_full l1) (by decide)) (R_w (R_full l2) (by decide)) (R_w f_740 (by decide)) (R_w f_741 (by decide)) (by omega)
